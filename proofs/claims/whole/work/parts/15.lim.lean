/-! ===== the core without its fuel: what a frame comes to ===== -/
theorem rr_run_more : ∀ (n m d : Nat) (F : rr_F) (G : rr_G) (r : rr_R), n ≤ m → rr_run n d F G = some r → rr_run m d F G = some r
  | 0, m, d, F, G, r, _, h => by cases h
  | n + 1, 0, d, F, G, r, hm, h => by omega
  | n + 1, m + 1, d, F, G, r, hm, h => by
    have hm' : n ≤ m := by omega
    rw [rr_run_succ] at h ⊢
    cases hx : rr_nx d F G with
    | none => rw [hx] at h; cases h
    | some a =>
      rw [hx] at h
      obtain ⟨pc, L, S, sz, us, hh⟩ | ⟨t, As, rest⟩ | v := a
      · exact rr_run_more n m d _ _ r hm' h
      · cases d with
        | zero => cases h
        | succ d' =>
          simp only at h ⊢
          obtain ⟨F', h1, h⟩ := Option.bind_eq_some_iff.mp h
          obtain ⟨r1, h2, h⟩ := Option.bind_eq_some_iff.mp h
          rw [h1, Option.bind_some, rr_run_more n m d' _ _ r1 hm' h2, Option.bind_some]
          exact rr_run_more n m (d' + 1) _ _ r hm' h
      · exact h
noncomputable def rr_X (d : Nat) (F : rr_F) (G : rr_G) : Option rr_R :=
  @dite (Option rr_R) (∃ (r : rr_R) (n : Nat), rr_run n d F G = some r) (Classical.propDecidable _) (fun h => some (Classical.choose h)) (fun _ => none)
theorem rr_X_of {n d : Nat} {F : rr_F} {G : rr_G} {r : rr_R} (h : rr_run n d F G = some r) : rr_X d F G = some r := by
  have hx : ∃ (r : rr_R) (n : Nat), rr_run n d F G = some r := ⟨r, n, h⟩
  unfold rr_X
  rw [dif_pos hx]
  obtain ⟨m, hm⟩ := Classical.choose_spec hx
  have h1 := rr_run_more n (n + m) d F G r (by omega) h
  have h2 := rr_run_more m (n + m) d F G _ (by omega) hm
  rw [h1] at h2
  exact h2.symm
theorem rr_X_run {d : Nat} {F : rr_F} {G : rr_G} {r : rr_R} (h : rr_X d F G = some r) : ∃ n, rr_run n d F G = some r := by
  unfold rr_X at h
  by_cases hx : ∃ (r : rr_R) (n : Nat), rr_run n d F G = some r
  · rw [dif_pos hx] at h
    have := Classical.choose_spec hx
    rw [Option.some.inj h] at this
    exact this
  · rw [dif_neg hx] at h; cases h
theorem rr_X_none {d : Nat} {F : rr_F} {G : rr_G} (h : ∀ n r, ¬ rr_run n d F G = some r) : rr_X d F G = none := by
  cases hx : rr_X d F G with
  | none => rfl
  | some r => obtain ⟨n, hn⟩ := rr_X_run hx; exact absurd hn (h n r)
theorem rr_X_ext {d d' : Nat} {F F' : rr_F} {G G' : rr_G} (h1 : ∀ r, (∃ n, rr_run n d F G = some r) → rr_X d' F' G' = some r) (h2 : ∀ r, (∃ n, rr_run n d' F' G' = some r) → rr_X d F G = some r) : rr_X d F G = rr_X d' F' G' := by
  cases hx : rr_X d F G with
  | some r => exact (h1 r (rr_X_run hx)).symm
  | none =>
    cases hy : rr_X d' F' G' with
    | none => rfl
    | some r => rw [h2 r (rr_X_run hy)] at hx; cases hx
/-- the frame, its parts told apart -/
noncomputable def rx (d mi pc : Nat) (L : rr_L) (S : List Value) (sz us : Nat) (h : rr_H) : Option rr_R := rr_X d (mi, pc, L, S) (sz, us, h)
noncomputable def rr_go (d mi pc : Nat) (L : rr_L) (sz us : Nat) (h : rr_H) : Option rr_Act → Option rr_R
  | none => none
  | some (.inl (pc', L', S', sz', us', h')) => rx d mi pc' L' S' sz' us' h'
  | some (.inr (.inl (t, As, rest))) => match d with
    | 0 => none
    | d' + 1 => (rr_fr t As).bind (fun F' => (rr_X d' F' (sz, us, h)).bind (fun r => rx (d' + 1) mi (pc + 3) L (r.1.toList ++ rest) r.2.1 r.2.2.1 r.2.2.2))
  | some (.inr (.inr v)) => some (v, sz, us, h)
theorem rx_eq (d mi pc : Nat) (L : rr_L) (S : List Value) (sz us : Nat) (h : rr_H) : rx d mi pc L S sz us h = rr_go d mi pc L sz us h (rr_nx d (mi, pc, L, S) (sz, us, h)) := by
  cases hx : rr_nx d (mi, pc, L, S) (sz, us, h) with
  | none =>
    refine rr_X_none fun n r hr => ?_
    cases n with
    | zero => cases hr
    | succ n => rw [rr_run_succ, hx] at hr; cases hr
  | some a =>
    obtain ⟨pc', L', S', sz', us', h'⟩ | ⟨t, As, rest⟩ | v := a
    · show rr_X _ _ _ = rr_X _ _ _
      refine rr_X_ext (fun r ⟨n, hn⟩ => ?_) (fun r ⟨n, hn⟩ => ?_)
      · cases n with
        | zero => cases hn
        | succ n => rw [rr_run_succ, hx] at hn; exact rr_X_of hn
      · exact rr_X_of (n := n + 1) (by rw [rr_run_succ, hx]; exact hn)
    · cases d with
      | zero =>
        refine rr_X_none fun n r hr => ?_
        cases n with
        | zero => cases hr
        | succ n => rw [rr_run_succ, hx] at hr; cases hr
      | succ d' =>
        show rr_X _ _ _ = (rr_fr t As).bind _
        cases hf : rr_fr t As with
        | none =>
          refine rr_X_none fun n r hr => ?_
          cases n with
          | zero => cases hr
          | succ n => rw [rr_run_succ, hx] at hr; simp only [hf] at hr; cases hr
        | some F' =>
          rw [Option.bind_some]
          cases hr1 : rr_X d' F' (sz, us, h) with
          | none =>
            refine rr_X_none fun n r hr => ?_
            cases n with
            | zero => cases hr
            | succ n =>
              rw [rr_run_succ, hx] at hr
              simp only [hf, Option.bind_some] at hr
              obtain ⟨r1, h2, -⟩ := Option.bind_eq_some_iff.mp hr
              rw [rr_X_of h2] at hr1
              cases hr1
          | some r1 =>
            rw [Option.bind_some]
            obtain ⟨n1, hn1⟩ := rr_X_run hr1
            show rr_X _ _ _ = rr_X _ _ _
            refine rr_X_ext (fun r ⟨n, hn⟩ => ?_) (fun r ⟨n, hn⟩ => ?_)
            · cases n with
              | zero => cases hn
              | succ n =>
                rw [rr_run_succ, hx] at hn
                simp only [hf, Option.bind_some] at hn
                obtain ⟨r2, h2, h3⟩ := Option.bind_eq_some_iff.mp hn
                have e := (rr_X_of h2).symm.trans hr1
                cases e
                exact rr_X_of h3
            · refine rr_X_of (n := n1 + n + 1) (r := r) ?_
              rw [rr_run_succ, hx]
              simp only [hf, Option.bind_some]
              rw [rr_run_more n1 (n1 + n) d' F' _ r1 (by omega) hn1, Option.bind_some]
              exact rr_run_more n (n1 + n) (d' + 1) _ _ r (by omega) hn
    · exact rr_X_of (n := 1) (by rw [rr_run_succ, hx])
/-! reading and writing, as functions -/
def rr_gf (sz : Nat) (h : rr_H) (a ci k : Nat) : Option Value := match h a with
  | .inr (.inr (.inr (cj, fs))) => if cj = ci ∧ a < sz then fs[k]? else none
  | _ => none
def rr_pf (sz : Nat) (h : rr_H) (a ci k : Nat) (v : Value) : Option rr_H := match h a with
  | .inr (.inr (.inr (cj, fs))) => if cj = ci ∧ a < sz ∧ k < fs.length then some (rr_up h a (rr_cO cj (fs.set k v))) else none
  | _ => none
def rr_ai (sz : Nat) (h : rr_H) (a : Nat) (i : Int32) : Option Int32 := match h a with
  | .inl (n, f) => if rr_rd sz a = true ∧ rr_in i n = true then some (f i.toNatClampNeg) else none
  | _ => none
def rr_wi (sz : Nat) (h : rr_H) (a : Nat) (i x : Int32) : Option rr_H := match h a with
  | .inl (n, f) => if a < sz ∧ rr_in i n = true then some (rr_up h a (rr_cI n (upd f i.toNatClampNeg x))) else none
  | _ => none
def rr_aj (sz : Nat) (h : rr_H) (a : Nat) (i : Int32) : Option Int64 := match h a with
  | .inr (.inl (n, f)) => if a < sz ∧ rr_in i n = true then some (f i.toNatClampNeg) else none
  | _ => none
def rr_wj (sz : Nat) (h : rr_H) (a : Nat) (i : Int32) (x : Int64) : Option rr_H := match h a with
  | .inr (.inl (n, f)) => if a < sz ∧ rr_in i n = true then some (rr_up h a (rr_cJ n (vp_updL f i.toNatClampNeg x))) else none
  | _ => none
def rr_aq (sz : Nat) (h : rr_H) (a : Nat) (i : Int32) : Option Value := match h a with
  | .inr (.inr (.inl (t, n, f))) => if t ≤ 1 ∧ a < sz ∧ rr_in i n = true then some (va_rf (f i.toNatClampNeg)) else none
  | _ => none
def rr_wq (sz : Nat) (h : rr_H) (a : Nat) (i : Int32) (v : Nat) : Option rr_H := match h a, h v with
  | .inr (.inr (.inl (t, n, f))), .inr (.inr (.inr (cj, _))) => if a < sz ∧ v < sz ∧ t = 0 ∧ cj = 5 ∧ rr_in i n = true then some (rr_up h a (rr_cQ t n (va_up f i.toNatClampNeg (some v)))) else none
  | _, _ => none
def rr_al (sz : Nat) (h : rr_H) (a : Nat) : Option Int32 := match h a with
  | .inl (n, _) => if rr_rd sz a = true then some (Int32.ofNat n) else none
  | _ => none
def rr_cp (sz : Nat) (h : rr_H) (a0 : Nat) (sp : Int32) (a : Nat) (dp n : Int32) : Option rr_H := match h a0, h a with
  | .inl (n0, f), .inl (n1, g) => if a < sz ∧ a0 < sz ∧ 0 ≤ n ∧ 0 ≤ dp ∧ 0 ≤ sp ∧ sp.toNatClampNeg + n.toNatClampNeg ≤ n0 ∧ dp.toNatClampNeg + n.toNatClampNeg ≤ n1 then some (rr_up h a (rr_cI n1 (va_cpy f g sp.toNatClampNeg dp.toNatClampNeg n.toNatClampNeg))) else none
  | _, _ => none
def rr_is (sz : Nat) (h : rr_H) (ci b : Nat) : Bool := decide (b < sz) && rr_isO h ci (.ref b)
section RX
variable {d m p : Nat} {y : MethodName} {cc : ByteArray} {nL : Nat} {rt : Option FieldType} {o na : Nat} {st : Bool} {ins : Instr} {len : Nat} {L L' : rr_L} {S S' : List Value} {sz us : Nat} {h : rr_H}
theorem rx_act (hm : rr_mm m = some (y, cc, nL, rt, o, na, st)) (hd : decode cc p = .ok (ins, len)) : rx d m p L S sz us h = rr_go d m p L sz us h (rr_act d o (decide (y.name = "<init>")) rt ins len p L S sz us h) := by
  rw [rx_eq]
  congr 1
  show (rr_mm m).bind _ = _
  rw [hm, Option.bind_some]
  simp only [hd]
theorem rx_go (hm : rr_mm m = some (y, cc, nL, rt, o, na, st)) (hd : decode cc p = .ok (ins, len)) {q : rr_St} (ha : rr_act d o (decide (y.name = "<init>")) rt ins len p L S sz us h = some (.inl q)) : rx d m p L S sz us h = rx d m q.1 q.2.1 q.2.2.1 q.2.2.2.1 q.2.2.2.2.1 q.2.2.2.2.2 := by
  rw [rx_act hm hd, ha]; rfl
theorem rx_br {x z : Int32} {cd : ClassFile.Cond} {off : Int} {t : Nat} (hm : rr_mm m = some (y, cc, nL, rt, o, na, st)) (hd : decode cc p = .ok (.if_icmp cd off, 3)) (ht : rr_jmp p off = some t) : rx d m p L (.int z :: .int x :: S) sz us h = (if rr_cnd cd x z = true then rx d m t L S sz us h else rx d m (p + 3) L S sz us h) := by
  rw [rx_act hm hd]
  simp only [rr_act, rr_jop, ht, Option.map_some, if_true]
  split <;> rfl
theorem rx_br0 {x : Int32} {cd : ClassFile.Cond} {off : Int} {t : Nat} (hm : rr_mm m = some (y, cc, nL, rt, o, na, st)) (hd : decode cc p = .ok (.ifCond cd off, 3)) (ht : rr_jmp p off = some t) : rx d m p L (.int x :: S) sz us h = (if rr_cnd cd x 0 = true then rx d m t L S sz us h else rx d m (p + 3) L S sz us h) := by
  rw [rx_act hm hd]
  simp only [rr_act, rr_jop, ht, Option.map_some, if_true]
  split <;> rfl
theorem rx_lt {α : Type} {x z : Int32} {u v : α} : (if rr_cnd .lt x z = true then u else v) = if x < z then u else v := by simp [rr_cnd]
theorem rx_ge {α : Type} {x z : Int32} {u v : α} : (if rr_cnd .ge x z = true then u else v) = if x < z then v else u := by
  simp only [rr_cnd, decide_eq_true_eq]
  by_cases hh : x < z
  · rw [if_pos hh, if_neg (Int32.not_le.mpr hh)]
  · rw [if_neg hh, if_pos (Int32.not_lt.mp hh)]
theorem rx_gt {α : Type} {x z : Int32} {u v : α} : (if rr_cnd .gt x z = true then u else v) = if z < x then u else v := by simp [rr_cnd]
theorem rx_le {α : Type} {x z : Int32} {u v : α} : (if rr_cnd .le x z = true then u else v) = if z < x then v else u := by
  simp only [rr_cnd, decide_eq_true_eq]
  by_cases hh : z < x
  · rw [if_pos hh, if_neg (Int32.not_le.mpr hh)]
  · rw [if_neg hh, if_pos (Int32.not_lt.mp hh)]
theorem rx_eqc {α : Type} {x z : Int32} {u v : α} : (if rr_cnd .eq x z = true then u else v) = if x = z then u else v := by simp [rr_cnd]
theorem rx_ne {α : Type} {x z : Int32} {u v : α} : (if rr_cnd .ne x z = true then u else v) = if x = z then v else u := by
  simp only [rr_cnd, decide_eq_true_eq]
  by_cases hh : x = z
  · rw [if_pos hh, if_neg (fun q => q hh)]
  · rw [if_neg hh, if_pos hh]
theorem rx_div {x z : Int32} {f : Int32 → Int32 → Int32} (hm : rr_mm m = some (y, cc, nL, rt, o, na, st)) (hd : decode cc p = .ok (ins, 1)) (ha : ∀ S' : List Value, rr_act d o (decide (y.name = "<init>")) rt ins 1 p L S' sz us h = (rr_iid f 1 S').map (fun S' => .inl (p + 1, L, S', sz, us, h))) : rx d m p L (.int z :: .int x :: S) sz us h = if z = 0 then none else rx d m (p + 1) L (.int (f x z) :: S) sz us h := by
  rw [rx_act hm hd, ha]
  unfold rr_iid
  by_cases hz : z = 0
  · simp only [if_pos hz]; rfl
  · simp only [if_neg hz]; rfl
theorem rx_divj {x z : Int64} {f : Int64 → Int64 → Int64} (hm : rr_mm m = some (y, cc, nL, rt, o, na, st)) (hd : decode cc p = .ok (ins, 1)) (ha : ∀ S' : List Value, rr_act d o (decide (y.name = "<init>")) rt ins 1 p L S' sz us h = (rr_jjd f 1 S').map (fun S' => .inl (p + 1, L, S', sz, us, h))) : rx d m p L (.long z :: .long x :: S) sz us h = if z = 0 then none else rx d m (p + 1) L (.long (f x z) :: S) sz us h := by
  rw [rx_act hm hd, ha]
  unfold rr_jjd
  by_cases hz : z = 0
  · simp only [if_pos hz]; rfl
  · simp only [if_neg hz]; rfl
theorem rx_getf {a idx ci k tk fin : Nat} (hm : rr_mm m = some (y, cc, nL, rt, o, na, st)) (hd : decode cc p = .ok (.getfield idx, 3)) (hl : rr_fl o idx = some (ci, k, tk, fin)) : rx d m p L (.ref a :: S) sz us h = (rr_gf sz h a ci k).bind fun v => rx d m (p + 3) L (v :: S) sz us h := by
  rw [rx_act hm hd]
  simp only [rr_act, rr_hop, hl, rr_gf]
  rcases hc : h a with ⟨n, f⟩ | ⟨n, f⟩ | ⟨t, n, f⟩ | ⟨cj, fs⟩
  · rfl
  · rfl
  · rfl
  · simp only
    by_cases hh : ci = cj ∧ a < sz
    · rw [if_pos ⟨hh.1, hh.2, trivial⟩, if_pos ⟨hh.1.symm, hh.2⟩]
      cases fs[k]? <;> rfl
    · rw [if_neg (fun q => hh ⟨q.1, q.2.1⟩), if_neg (fun q => hh ⟨q.1.symm, q.2⟩)]
      rfl
theorem rx_putf {a idx ci k tk fin : Nat} {v : Value} (hm : rr_mm m = some (y, cc, nL, rt, o, na, st)) (hd : decode cc p = .ok (.putfield idx, 3)) (hl : rr_fl o idx = some (ci, k, tk, fin)) (hf : fin = 1 → decide (y.name = "<init>") = true ∧ o = ci) : rx d m p L (v :: .ref a :: S) sz us h = if rr_fit tk v = true then (rr_pf sz h a ci k v).bind fun h' => rx d m (p + 3) L S sz us h' else none := by
  rw [rx_act hm hd]
  simp only [rr_act, rr_wop, hl, rr_pf]
  rcases hc : h a with ⟨n, f⟩ | ⟨n, f⟩ | ⟨t, n, f⟩ | ⟨cj, fs⟩
  · by_cases hft : rr_fit tk v = true
    · rw [if_pos hft]; rfl
    · rw [if_neg hft]; rfl
  · by_cases hft : rr_fit tk v = true
    · rw [if_pos hft]; rfl
    · rw [if_neg hft]; rfl
  · by_cases hft : rr_fit tk v = true
    · rw [if_pos hft]; rfl
    · rw [if_neg hft]; rfl
  · simp only
    by_cases hft : rr_fit tk v = true
    · rw [if_pos hft]
      by_cases hh : cj = ci ∧ a < sz ∧ k < fs.length
      · rw [if_pos ⟨hh.1.symm, hh.2.1, trivial, hh.2.2, hft, hf⟩, if_pos hh]
        rfl
      · rw [if_neg (fun q => hh ⟨q.1.symm, q.2.1, q.2.2.2.1⟩), if_neg hh]
        rfl
    · rw [if_neg hft, if_neg (fun q => hft q.2.2.2.2.1)]
      rfl
theorem rx_iald {a : Nat} {i : Int32} (hm : rr_mm m = some (y, cc, nL, rt, o, na, st)) (hd : decode cc p = .ok (.iaload, 1)) : rx d m p L (.int i :: .ref a :: S) sz us h = (rr_ai sz h a i).bind fun x => rx d m (p + 1) L (.int x :: S) sz us h := by
  rw [rx_act hm hd]
  simp only [rr_act, rr_hop, rr_ai]
  rcases hc : h a with ⟨n, f⟩ | ⟨n, f⟩ | ⟨t, n, f⟩ | ⟨cj, fs⟩
  · simp only
    by_cases hh : rr_rd sz a = true ∧ rr_in i n = true
    · rw [if_pos ⟨hh.1, hh.2, trivial⟩, if_pos hh]; rfl
    · rw [if_neg (fun q => hh ⟨q.1, q.2.1⟩), if_neg hh]; rfl
  all_goals rfl
theorem rx_iast {a : Nat} {i x : Int32} (hm : rr_mm m = some (y, cc, nL, rt, o, na, st)) (hd : decode cc p = .ok (.iastore, 1)) : rx d m p L (.int x :: .int i :: .ref a :: S) sz us h = (rr_wi sz h a i x).bind fun h' => rx d m (p + 1) L S sz us h' := by
  rw [rx_act hm hd]
  simp only [rr_act, rr_wop, rr_wi]
  rcases hc : h a with ⟨n, f⟩ | ⟨n, f⟩ | ⟨t, n, f⟩ | ⟨cj, fs⟩
  · simp only
    by_cases hh : a < sz ∧ rr_in i n = true
    · rw [if_pos ⟨hh.1, hh.2, trivial⟩, if_pos hh]; rfl
    · rw [if_neg (fun q => hh ⟨q.1, q.2.1⟩), if_neg hh]; rfl
  all_goals rfl
theorem rx_jald {a : Nat} {i : Int32} (hm : rr_mm m = some (y, cc, nL, rt, o, na, st)) (hd : decode cc p = .ok (.laload, 1)) : rx d m p L (.int i :: .ref a :: S) sz us h = (rr_aj sz h a i).bind fun x => rx d m (p + 1) L (.long x :: S) sz us h := by
  rw [rx_act hm hd]
  simp only [rr_act, rr_hop, rr_aj]
  rcases hc : h a with ⟨n, f⟩ | ⟨n, f⟩ | ⟨t, n, f⟩ | ⟨cj, fs⟩
  · rfl
  · simp only
    by_cases hh : a < sz ∧ rr_in i n = true
    · rw [if_pos ⟨hh.1, hh.2, trivial⟩, if_pos hh]; rfl
    · rw [if_neg (fun q => hh ⟨q.1, q.2.1⟩), if_neg hh]; rfl
  all_goals rfl
theorem rx_jast {a : Nat} {i : Int32} {x : Int64} (hm : rr_mm m = some (y, cc, nL, rt, o, na, st)) (hd : decode cc p = .ok (.lastore, 1)) : rx d m p L (.long x :: .int i :: .ref a :: S) sz us h = (rr_wj sz h a i x).bind fun h' => rx d m (p + 1) L S sz us h' := by
  rw [rx_act hm hd]
  simp only [rr_act, rr_wop, rr_wj]
  rcases hc : h a with ⟨n, f⟩ | ⟨n, f⟩ | ⟨t, n, f⟩ | ⟨cj, fs⟩
  · rfl
  · simp only
    by_cases hh : a < sz ∧ rr_in i n = true
    · rw [if_pos ⟨hh.1, hh.2, trivial⟩, if_pos hh]; rfl
    · rw [if_neg (fun q => hh ⟨q.1, q.2.1⟩), if_neg hh]; rfl
  all_goals rfl
theorem rx_qald {a : Nat} {i : Int32} (hm : rr_mm m = some (y, cc, nL, rt, o, na, st)) (hd : decode cc p = .ok (.aaload, 1)) : rx d m p L (.int i :: .ref a :: S) sz us h = (rr_aq sz h a i).bind fun v => rx d m (p + 1) L (v :: S) sz us h := by
  rw [rx_act hm hd]
  simp only [rr_act, rr_hop, rr_aq]
  rcases hc : h a with ⟨n, f⟩ | ⟨n, f⟩ | ⟨t, n, f⟩ | ⟨cj, fs⟩
  · rfl
  · rfl
  · simp only
    by_cases hh : t ≤ 1 ∧ a < sz ∧ rr_in i n = true
    · rw [if_pos ⟨hh.1, hh.2.1, hh.2.2, trivial⟩, if_pos hh]; rfl
    · rw [if_neg (fun q => hh ⟨q.1, q.2.1, q.2.2.1⟩), if_neg hh]; rfl
  · rfl
theorem rx_qast {a v : Nat} {i : Int32} (hm : rr_mm m = some (y, cc, nL, rt, o, na, st)) (hd : decode cc p = .ok (.aastore, 1)) : rx d m p L (.ref v :: .int i :: .ref a :: S) sz us h = (rr_wq sz h a i v).bind fun h' => rx d m (p + 1) L S sz us h' := by
  rw [rx_act hm hd]
  simp only [rr_act, rr_wop, rr_wq]
  rcases hc : h a with ⟨n, f⟩ | ⟨n, f⟩ | ⟨t, n, f⟩ | ⟨cj, fs⟩
  · rfl
  · rfl
  · rcases hv : h v with ⟨n', f'⟩ | ⟨n', f'⟩ | ⟨t', n', f'⟩ | ⟨cj, fs⟩
    · rfl
    · rfl
    · rfl
    · simp only
      by_cases hh : a < sz ∧ v < sz ∧ t = 0 ∧ cj = 5 ∧ rr_in i n = true
      · rw [if_pos ⟨hh.1, hh.2.1, hh.2.2.1, hh.2.2.2.1, hh.2.2.2.2, trivial⟩, if_pos hh]; rfl
      · rw [if_neg (fun q => hh ⟨q.1, q.2.1, q.2.2.1, q.2.2.2.1, q.2.2.2.2.1⟩), if_neg hh]; rfl
  · rfl
theorem rx_alen {a : Nat} (hm : rr_mm m = some (y, cc, nL, rt, o, na, st)) (hd : decode cc p = .ok (.arraylength, 1)) : rx d m p L (.ref a :: S) sz us h = (rr_al sz h a).bind fun x => rx d m (p + 1) L (.int x :: S) sz us h := by
  rw [rx_act hm hd]
  simp only [rr_act, rr_hop, rr_al]
  rcases hc : h a with ⟨n, f⟩ | ⟨n, f⟩ | ⟨t, n, f⟩ | ⟨cj, fs⟩
  · simp only
    by_cases hh : rr_rd sz a = true
    · rw [if_pos ⟨hh, trivial⟩, if_pos hh]; rfl
    · rw [if_neg (fun q => hh q.1), if_neg hh]; rfl
  all_goals rfl
theorem rx_cpy {idx a a0 : Nat} {n dp sp : Int32} (hm : rr_mm m = some (y, cc, nL, rt, o, na, st)) (hd : decode cc p = .ok (.invokestatic idx, 3)) (hl : rr_ml o idx = some (1001, 0)) (hS : rr_cat S ≤ 11) : rx (d + 1) m p L (.int n :: .int dp :: .ref a :: .int sp :: .ref a0 :: S) sz us h = (rr_cp sz h a0 sp a dp n).bind fun h' => rx (d + 1) m (p + 3) L S sz us h' := by
  rw [rx_act hm hd]
  simp only [rr_act, hl, Option.bind_some]
  rw [if_pos (by decide), if_pos ⟨Nat.succ_pos d, by simp only [rr_cat_cons]; show 1 + (1 + (1 + (1 + (1 + rr_cat S)))) ≤ 16; omega, trivial⟩]
  simp only [rr_sop, rr_cp]
  rcases hc : h a0 with ⟨n0, f⟩ | ⟨n0, f⟩ | ⟨t, n0, f⟩ | ⟨cj, fs⟩
  · rcases hv : h a with ⟨n1, g⟩ | ⟨n1, g⟩ | ⟨t, n1, g⟩ | ⟨cj, fs⟩
    · simp only
      by_cases hh : a < sz ∧ a0 < sz ∧ 0 ≤ n ∧ 0 ≤ dp ∧ 0 ≤ sp ∧ sp.toNatClampNeg + n.toNatClampNeg ≤ n0 ∧ dp.toNatClampNeg + n.toNatClampNeg ≤ n1
      · rw [if_pos ⟨hh.1, hh.2.1, hh.2.2.1, hh.2.2.2.1, hh.2.2.2.2.1, hh.2.2.2.2.2.1, hh.2.2.2.2.2.2, trivial⟩, if_pos hh]; rfl
      · rw [if_neg (fun q => hh ⟨q.1, q.2.1, q.2.2.1, q.2.2.2.1, q.2.2.2.2.1, q.2.2.2.2.2.1, q.2.2.2.2.2.2.1⟩), if_neg hh]; rfl
    all_goals rfl
  all_goals rfl
theorem rx_sop {idx t : Nat} {S' : List Value} (hm : rr_mm m = some (y, cc, nL, rt, o, na, st)) (hd : decode cc p = .ok (.invokestatic idx, 3)) (hl : rr_ml o idx = some (t, 0)) (ht : 1000 < t) (hS : rr_cat S ≤ 16) (hs : rr_sop t 3 S sz h = some (S', h)) : rx (d + 1) m p L S sz us h = rx (d + 1) m (p + 3) L S' sz us h := by
  rw [rx_act hm hd]
  simp only [rr_act, hl, Option.bind_some]
  rw [if_pos ht, if_pos ⟨Nat.succ_pos d, hS, trivial⟩, hs]
  rfl
theorem rx_ini {idx a : Nat} (hm : rr_mm m = some (y, cc, nL, rt, o, na, st)) (hd : decode cc p = .ok (.invokespecial idx, 3)) (hl : rr_ml o idx = some (1000, 0)) (hS : rr_cat S ≤ 8) : rx (d + 1) m p L (.ref a :: S) sz us h = if a < sz then rx (d + 1) m (p + 3) L S sz us h else none := by
  rw [rx_act hm hd]
  simp only [rr_act]
  rw [if_pos hl, if_pos ⟨Nat.succ_pos d, by rw [rr_cat_cons]; show 1 + rr_cat S ≤ 9; omega⟩]
  simp only [rr_sop]
  by_cases hh : a < sz
  · rw [if_pos ⟨hh, trivial⟩, if_pos hh]; rfl
  · rw [if_neg (fun q => hh q.1), if_neg hh]; rfl
/-- calls: the callee's first frame and its answer -/
theorem rx_virt {idx t b : Nat} {As rest : List Value} {y' : MethodName} {cc' : ByteArray} {nL' : Nat} {rt' : Option FieldType} {ci na' : Nat} {E : rr_L} (hm : rr_mm m = some (y, cc, nL, rt, o, na, st)) (hd : decode cc p = .ok (.invokevirtual idx, 3)) (hl : rr_ml o idx = some (t, 0)) (hmt : rr_m t = some (y', cc', nL', rt', ci, na', false)) (hn : decide (y'.name = "<init>") = false) (hlen : As.length + 1 = na') (hc : rr_cat rest ≤ 8) (hE : (rr_sl (.ref b :: As)).length ≤ nL') (hE2 : rr_ent (.ref b :: As) nL' = E) : rx (d + 1) m p L (As.reverse ++ .ref b :: rest) sz us h = if rr_is sz h ci b = true then (rx d t 0 E [] sz us h).bind fun r => rx (d + 1) m (p + 3) L (r.1.toList ++ rest) r.2.1 r.2.2.1 r.2.2.2 else none := by
  subst hlen
  subst hE2
  rw [rx_act hm hd]
  have e0 : As.reverse ++ .ref b :: rest = (As.reverse ++ [.ref b]) ++ rest := by simp
  have e1 : (As.reverse ++ .ref b :: rest).take (As.length + 1) = As.reverse ++ [.ref b] := by rw [e0, List.take_left' (by simp)]
  have e2 : (As.reverse ++ .ref b :: rest).drop (As.length + 1) = rest := by rw [e0, List.drop_left' (by simp)]
  have e3 : (As.reverse ++ [Value.ref b]).reverse = .ref b :: As := by simp
  simp only [rr_act, rr_cal, hl, hmt, Option.bind_some, e1, e2, e3, List.head?_cons, Option.any_some, hn]
  by_cases hi : rr_is sz h ci b = true
  · rw [if_pos hi, if_pos ⟨trivial, by simp, hc, rfl, rfl, fun _ => ⟨trivial, hi⟩, fun q => absurd q (by decide)⟩]
    show (rr_fr t _).bind _ = _
    have hf : rr_fr t (.ref b :: As) = some (t, 0, rr_ent (.ref b :: As) nL', []) := by
      unfold rr_fr; rw [hmt, Option.bind_some]; exact if_pos hE
    rw [hf]
    rfl
  · rw [if_neg hi, if_neg (fun q => hi (q.2.2.2.2.2.1 trivial).2)]
    rfl
theorem rx_stat {idx t nest : Nat} {As rest : List Value} {y' : MethodName} {cc' : ByteArray} {nL' : Nat} {rt' : Option FieldType} {ci na' : Nat} {E : rr_L} (hm : rr_mm m = some (y, cc, nL, rt, o, na, st)) (hd : decode cc p = .ok (.invokestatic idx, 3)) (hl : rr_ml o idx = some (t, nest)) (ht : ¬ 1000 < t) (hmt : rr_m t = some (y', cc', nL', rt', ci, na', true)) (hn : decide (y'.name = "<init>") = false) (hlen : As.length = na') (hc : rr_cat rest ≤ 8) (hE : (rr_sl As).length ≤ nL') (hE2 : rr_ent As nL' = E) : rx (d + 1) m p L (As.reverse ++ rest) sz us h = (rx d t 0 E [] sz us h).bind fun r => rx (d + 1) m (p + 3) L (r.1.toList ++ rest) r.2.1 r.2.2.1 r.2.2.2 := by
  subst hlen
  subst hE2
  rw [rx_act hm hd]
  have e1 : (As.reverse ++ rest).take As.length = As.reverse := List.take_left' (by simp)
  have e2 : (As.reverse ++ rest).drop As.length = rest := List.drop_left' (by simp)
  simp only [rr_act, hl, Option.bind_some]
  rw [if_neg ht]
  simp only [rr_cal, hl, hmt, Option.bind_some, e1, e2, List.reverse_reverse, hn]
  rw [if_pos ⟨trivial, by simp, hc, rfl, rfl, fun q => absurd q (by decide), fun q => absurd q (by decide)⟩]
  show (rr_fr t _).bind _ = _
  have hf : rr_fr t As = some (t, 0, rr_ent As nL', []) := by
    unfold rr_fr; rw [hmt, Option.bind_some]; exact if_pos hE
  rw [hf]
  rfl
theorem rx_spec {idx t b nest : Nat} {As rest : List Value} {y' : MethodName} {cc' : ByteArray} {nL' : Nat} {rt' : Option FieldType} {ci na' : Nat} {E : rr_L} (hm : rr_mm m = some (y, cc, nL, rt, o, na, st)) (hd : decode cc p = .ok (.invokespecial idx, 3)) (hl : rr_ml o idx = some (t, nest)) (ht : ¬ t = 1000) (hmt : rr_m t = some (y', cc', nL', rt', ci, na', false)) (hn : decide (y'.name = "<init>") = true) (hlen : As.length + 1 = na') (hc : rr_cat rest ≤ 8) (hE : (rr_sl (.ref b :: As)).length ≤ nL') (hE2 : rr_ent (.ref b :: As) nL' = E) : rx (d + 1) m p L (As.reverse ++ .ref b :: rest) sz us h = if b < sz then (rx d t 0 E [] sz us h).bind fun r => rx (d + 1) m (p + 3) L (r.1.toList ++ rest) r.2.1 r.2.2.1 r.2.2.2 else none := by
  subst hlen
  subst hE2
  rw [rx_act hm hd]
  have e0 : As.reverse ++ .ref b :: rest = (As.reverse ++ [.ref b]) ++ rest := by simp
  have e1 : (As.reverse ++ .ref b :: rest).take (As.length + 1) = As.reverse ++ [.ref b] := by rw [e0, List.take_left' (by simp)]
  have e2 : (As.reverse ++ .ref b :: rest).drop (As.length + 1) = rest := by rw [e0, List.drop_left' (by simp)]
  have e3 : (As.reverse ++ [Value.ref b]).reverse = .ref b :: As := by simp
  simp only [rr_act]
  rw [if_neg (fun q => ht (by rw [hl] at q; cases q; rfl))]
  simp only [rr_cal, hl, hmt, Option.bind_some, e1, e2, e3, List.head?_cons, Option.any_some, hn]
  by_cases hi : b < sz
  · rw [if_pos hi, if_pos ⟨trivial, by simp, hc, rfl, rfl, fun q => absurd q (by decide), fun _ => decide_eq_true hi⟩]
    show (rr_fr t _).bind _ = _
    have hf : rr_fr t (.ref b :: As) = some (t, 0, rr_ent (.ref b :: As) nL', []) := by
      unfold rr_fr; rw [hmt, Option.bind_some]; exact if_pos hE
    rw [hf]
    rfl
  · rw [if_neg hi, if_neg (fun q => hi (of_decide_eq_true (q.2.2.2.2.2.2 trivial)))]
    rfl
theorem rx_ret {v : Option Value} (hm : rr_mm m = some (y, cc, nL, rt, o, na, st)) (hd : decode cc p = .ok (ins, len)) (ha : rr_act d o (decide (y.name = "<init>")) rt ins len p L S sz us h = some (.inr (.inr v))) : rx d m p L S sz us h = some (v, sz, us, h) := by
  rw [rx_act hm hd, ha]; rfl
theorem rx_retz {v : Int32} (hm : rr_mm m = some (y, cc, nL, some .boolean, o, na, st)) (hd : decode cc p = .ok (.ireturn, 1)) : rx d m p L [.int v] sz us h = if v = 0 ∨ v = 1 then some (some (.int v), sz, us, h) else none := by
  rw [rx_act hm hd]
  simp only [rr_act, rr_ret]
  by_cases hh : v = 0 ∨ v = 1
  · rw [if_pos hh, if_pos ⟨trivial, hh⟩]; rfl
  · rw [if_neg hh, if_neg (fun q => hh q.2)]; rfl
theorem rx_newa {n : Int32} (hm : rr_mm m = some (y, cc, nL, rt, o, na, st)) (hd : decode cc p = .ok (.newarray .int, 2)) : rx d m p L (.int n :: S) sz us h = if 0 ≤ n ∧ n.toNatClampNeg ≤ 60000000 then rx d m (p + 2) L (.ref sz :: S) (sz + 1) (us + n.toNatClampNeg) (rr_up h sz (rr_cI n.toNatClampNeg (fun _ => 0))) else none := by
  rw [rx_act hm hd]
  simp only [rr_act, rr_nop]
  by_cases hh : 0 ≤ n ∧ n.toNatClampNeg ≤ 60000000
  · rw [if_pos hh, if_pos ⟨hh.1, hh.2, trivial⟩]; rfl
  · rw [if_neg hh, if_neg (fun q => hh ⟨q.1, q.2.1⟩)]; rfl
theorem rx_newj {n : Int32} (hm : rr_mm m = some (y, cc, nL, rt, o, na, st)) (hd : decode cc p = .ok (.newarray .long, 2)) : rx d m p L (.int n :: S) sz us h = if 0 ≤ n ∧ n.toNatClampNeg ≤ 60000000 then rx d m (p + 2) L (.ref sz :: S) (sz + 1) (us + n.toNatClampNeg) (rr_up h sz (rr_cJ n.toNatClampNeg (fun _ => 0))) else none := by
  rw [rx_act hm hd]
  simp only [rr_act, rr_nop]
  by_cases hh : 0 ≤ n ∧ n.toNatClampNeg ≤ 60000000
  · rw [if_pos hh, if_pos ⟨hh.1, hh.2, trivial⟩]; rfl
  · rw [if_neg hh, if_neg (fun q => hh ⟨q.1, q.2.1⟩)]; rfl
theorem rx_newq {idx : Nat} {n : Int32} (hm : rr_mm m = some (y, cc, nL, rt, o, na, st)) (hd : decode cc p = .ok (.anewarray idx, 3)) (hl : rr_cl o idx = some 5) : rx d m p L (.int n :: S) sz us h = if 0 ≤ n ∧ n.toNatClampNeg ≤ 60000000 then rx d m (p + 3) L (.ref sz :: S) (sz + 1) (us + n.toNatClampNeg) (rr_up h sz (rr_cQ 0 n.toNatClampNeg (fun _ => none))) else none := by
  rw [rx_act hm hd]
  simp only [rr_act, rr_nop]
  by_cases hh : 0 ≤ n ∧ n.toNatClampNeg ≤ 60000000
  · rw [if_pos hh, if_pos ⟨hh.1, hh.2, trivial, hl⟩]; rfl
  · rw [if_neg hh, if_neg (fun q => hh ⟨q.1, q.2.1⟩)]; rfl
theorem rx_new {idx ci : Nat} {fs : List Value} (hm : rr_mm m = some (y, cc, nL, rt, o, na, st)) (hd : decode cc p = .ok (.new idx, 3)) (hl : rr_cl o idx = some ci) (hf : rr_DF[ci]? = some fs) : rx d m p L S sz us h = rx d m (p + 3) L (.ref sz :: S) (sz + 1) (us + fs.length) (rr_up h sz (rr_cO ci fs)) := by
  rw [rx_act hm hd]
  simp only [rr_act, rr_nop, hl, hf, Option.bind_some]
  rfl
theorem rx_mul {idx : Nat} {n k : Int32} (hm : rr_mm m = some (y, cc, nL, rt, o, na, st)) (hd : decode cc p = .ok (.multianewarray idx 2, 4)) (hl : rr_cl o idx = some 100) : rx d m p L (.int k :: .int n :: S) sz us h = if 0 ≤ n ∧ 0 ≤ k ∧ n.toNatClampNeg ≤ 1000 ∧ k.toNatClampNeg ≤ 1000 then rx d m (p + 4) L (.ref sz :: S) (sz + (1 + n.toNatClampNeg)) (us + (n.toNatClampNeg + n.toNatClampNeg * k.toNatClampNeg)) (rr_mul h sz n.toNatClampNeg k.toNatClampNeg) else none := by
  rw [rx_act hm hd]
  simp only [rr_act, rr_nop]
  by_cases hh : 0 ≤ n ∧ 0 ≤ k ∧ n.toNatClampNeg ≤ 1000 ∧ k.toNatClampNeg ≤ 1000
  · rw [if_pos hh, if_pos ⟨hh.1, hh.2.1, hh.2.2.1, hh.2.2.2, trivial, hl⟩]; rfl
  · rw [if_neg hh, if_neg (fun q => hh ⟨q.1, q.2.1, q.2.2.1, q.2.2.2.1⟩)]; rfl
theorem rx_nnul {off : Int} {t a : Nat} (hm : rr_mm m = some (y, cc, nL, rt, o, na, st)) (hd : decode cc p = .ok (.ifnonnull off, 3)) (ht : rr_jmp p off = some t) : rx d m p L (.ref a :: S) sz us h = rx d m t L S sz us h := by
  rw [rx_act hm hd]
  simp only [rr_act, rr_jop, ht]
  rfl
theorem rx_nnul0 {off : Int} (hm : rr_mm m = some (y, cc, nL, rt, o, na, st)) (hd : decode cc p = .ok (.ifnonnull off, 3)) : rx d m p L (.null :: S) sz us h = rx d m (p + 3) L S sz us h := by
  rw [rx_act hm hd]
  simp only [rr_act, rr_jop]
  rfl
theorem rx_goto {off : Int} {t : Nat} (hm : rr_mm m = some (y, cc, nL, rt, o, na, st)) (hd : decode cc p = .ok (.goto off, 3)) (ht : rr_jmp p off = some t) : rx d m p L S sz us h = rx d m t L S sz us h := by
  rw [rx_act hm hd]
  simp only [rr_act, rr_jop, ht]
  rfl
end RX

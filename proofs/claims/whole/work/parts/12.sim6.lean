/-! ===== the four arrays that nobody writes stay ===== -/
theorem rr_up_ne {h : rr_H} {a j : Nat} {c : rr_C} (hn : j ≠ a) : rr_up h a c j = h j := if_neg hn
theorem rr_up_eq {h : rr_H} {a : Nat} {c : rr_C} : rr_up h a c a = c := if_pos rfl
theorem rr_wop_ro {o len sz : Nat} {ini : Bool} {ins : Instr} {S : List Value} {h : rr_H} {q} (hs : rr_wop o ini ins len S sz h = some q) {j : Nat} (hj : sz ≤ j) : q.2.2 j = h j := by
  cases ins with
  | putfield idx =>
    simp only [rr_wop] at hs
    split at hs
    · split at hs
      · split at hs
        · rename_i hc
          cases hs
          exact rr_up_ne (fun e => by have h2 := hc.2.1; rw [← e] at h2; exact absurd h2 (Nat.not_lt.mpr hj))
        · cases hs
      · cases hs
    · cases hs
  | iastore | lastore =>
    simp only [rr_wop] at hs
    split at hs
    · split at hs
      · split at hs
        · rename_i hc
          cases hs
          exact rr_up_ne (fun e => by have h2 := hc.1; rw [← e] at h2; exact absurd h2 (Nat.not_lt.mpr hj))
        · cases hs
      · cases hs
    · cases hs
  | aastore =>
    simp only [rr_wop] at hs
    split at hs
    · split at hs
      · split at hs
        · rename_i hc
          cases hs
          exact rr_up_ne (fun e => by have h2 := hc.1; rw [← e] at h2; exact absurd h2 (Nat.not_lt.mpr hj))
        · cases hs
      · cases hs
    · cases hs
  | _ => cases hs
theorem rr_sop_ro {t len sz : Nat} {S : List Value} {h : rr_H} {q} (hs : rr_sop t len S sz h = some q) {j : Nat} (hj : sz ≤ j) : q.2 j = h j := by
  unfold rr_sop at hs
  split at hs
  · split at hs
    · cases hs; rfl
    · cases hs
  · split at hs
    · split at hs
      · rename_i hc
        cases hs
        exact rr_up_ne (fun e => by have h2 := hc.1; rw [← e] at h2; exact absurd h2 (Nat.not_lt.mpr hj))
      · cases hs
    · cases hs
  all_goals first | (cases hs; done) | (split at hs <;> first | (cases hs; done) | (cases hs; rfl))
theorem rr_nop_ro {o len sz : Nat} {ins : Instr} {S : List Value} {h : rr_H} {q} (hs : rr_nop o ins len S sz h = some q) {j : Nat} (hj : sz + q.2.2.1 ≤ j) : q.2.2.2.2 j = h j := by
  unfold rr_nop at hs
  split at hs
  · obtain ⟨ci, -, hs⟩ := Option.bind_eq_some_iff.mp hs
    obtain ⟨fs, -, hs⟩ := Option.bind_eq_some_iff.mp hs
    split at hs
    · cases hs; exact rr_up_ne (by have := hj; simp only at this; omega)
    · cases hs
  · split at hs
    · split at hs
      · cases hs; exact rr_up_ne (by have := hj; simp only at this; omega)
      · cases hs
    · cases hs
  · split at hs
    · split at hs
      · cases hs; exact rr_up_ne (by have := hj; simp only at this; omega)
      · cases hs
    · cases hs
  · split at hs
    · split at hs
      · cases hs; exact rr_up_ne (by have := hj; simp only at this; omega)
      · cases hs
    · cases hs
  · split at hs
    · split at hs
      · cases hs
        simp only at hj
        show rr_mul _ _ _ _ _ = _
        unfold rr_mul
        rw [if_neg (by omega), if_neg (by omega)]
      · cases hs
    · cases hs
  · cases hs
theorem rr_run_ro : ∀ (n d : Nat) (F : rr_F) (G : rr_G) (r : rr_R), rr_run n d F G = some r → ∀ j, r.2.1 ≤ j → r.2.2.2 j = G.2.2 j
  | 0, d, F, G, r, h, j, hj => by cases h
  | n + 1, d, F, G, r, h, j, hj => by
    rcases rr_run_cases h with ⟨q, h1, h2⟩ | ⟨t, As, rest, d', F', r1, h1, rfl, h3, h4, h5⟩ | ⟨v, h1, rfl⟩
    · have ih := rr_run_ro n d _ _ r h2 j hj
      have hm := (rr_run_mono n d _ _ r h2).1
      simp only at ih hm
      obtain ⟨y, cc, nL, rt, o, na, st, ins, len, -, -, ha⟩ := rr_nx_inv h1
      have key : q.2.2.2.2.2 j = G.2.2 j := by
        rcases rr_act_cases ha with ⟨z, -, e⟩ | ⟨z, -, e⟩ | ⟨z, -, e⟩ | ⟨z, -, e⟩ | ⟨z, hz, e⟩ | ⟨z, hz, e⟩ | ⟨i, z, -, -, -, -, hz, e⟩ | ⟨i, t, z, -, -, -, -, -, hz, e⟩ | ⟨i, z, -, -, e⟩ | ⟨i, z, -, -, e⟩ | ⟨i, z, -, -, e⟩ | ⟨z, -, e⟩
        all_goals first | (cases e; done) | skip
        · cases e; rfl
        · cases e; rfl
        · cases e; rfl
        · cases e; rfl
        · cases e; exact rr_wop_ro hz (Nat.le_trans hm hj)
        · cases e; exact rr_nop_ro hz (Nat.le_trans hm hj)
        · cases e; exact rr_sop_ro hz (Nat.le_trans hm hj)
        · cases e; exact rr_sop_ro hz (Nat.le_trans hm hj)
      exact ih.trans key
    · have i1 := rr_run_ro n d' _ _ r1 h4 j (Nat.le_trans (rr_run_mono n (d' + 1) _ _ r h5).1 hj)
      have i2 := rr_run_ro n (d' + 1) _ _ r h5 j hj
      exact i2.trans i1
    · rfl
theorem rr_ret_len {rt : Option FieldType} {ins : Instr} {len : Nat} {S : List Value} {v : Option Value} (h : rr_ret rt ins len S = some v) : len = 1 := by
  unfold rr_ret at h
  split at h
  all_goals (try (split at h))
  all_goals (try (split at h))
  all_goals first | (cases h; done) | (rename_i hc; first | exact hc | exact hc.1)
/-- what is claimed of a run of n steps -/
def rr_Bd (n : Nat) : Prop := ∀ (d : Nat) (F : rr_F) (G : rr_G) (r : rr_R), rr_run n d F G = some r →
  ∀ (p : Program) (l : Launch) (e : Env) (R : Room) (s : State) (m : MethodId) (args : Array Value) (below : List Frame) (meth : Method) (c : Code) (H : Heap) (locs : List Loc) (cells slots : Nat) (Q : State → Prop)
    (D : va_G) (cA : Nat → ClassId) (ad : Nat → Nat) (base : Nat) (N : Nat → Nat) (f : Nat → Nat → Int32) (y : MethodName) (cc : ByteArray) (nL : Nat) (rt : Option FieldType) (o na : Nat) (st : Bool) (ls : Array Slot),
    rr_mm F.1 = some (y, cc, nL, rt, o, na, st) → p.tables.exec = Jvm.exec → c.code = cc → c.maxLocals = nL → (y.name = "<init>" → meth.name = "<init>") → rr_Env D cA ad base N f o s m args →
    d ≤ R.frames → 100 * d ≤ R.locals → cells + (r.2.1 - G.1) ≤ R.cells → slots + (r.2.2.1 - G.2.1) ≤ R.slots → r.2.1 ≤ 900000 → (∀ k, k < 4 → G.2.2 (1000000 + k) = rr_cI (N k) (f k)) →
    rr_LR ad F.2.2.1 ls nL → rr_W D cA ad base G.1 G.2.2 H → va_S (fun q => base ≤ q) s.heap H locs →
    (∀ (pc : Nat) (ls' : Array Slot) (S : List Value) (ins : Instr) (H' : Heap) (locs' : List Loc), decode cc pc = .ok (ins, 1) → rr_ret rt ins 1 S = some r.1 → rr_W D cA ad base r.2.1 r.2.2.2 H' → va_S (fun q => base ≤ q) s.heap H' locs' →
      W p l e R s m args below meth c H' locs' (cells + (r.2.1 - G.1)) (slots + (r.2.2.1 - G.2.1)) Q (F0 m pc ls' (S.map (rr_v ad)))) →
    W p l e R s m args below meth c H locs cells slots Q (F0 m F.2.1 ls (F.2.2.2.map (rr_v ad)))
theorem rr_m_lt {t : Nat} {q : rr_M} (h : rr_m t = some q) : t < 500 := by
  obtain ⟨z, h1, -⟩ := Option.map_eq_some_iff.mp h
  have h2 : t < rr_all.length := (List.getElem?_eq_some_iff.mp h1).1
  have h3 : rr_all.length = 227 := by decide +kernel
  omega
theorem rr_mm_of {t : Nat} {q : rr_M} (h : rr_m t = some q) : rr_mm t = some q := by
  unfold rr_mm
  rw [if_neg (by have := rr_m_lt h; omega)]
  exact h
theorem rr_fr_inv {t : Nat} {As : List Value} {F : rr_F} {y : MethodName} {cc : ByteArray} {nL : Nat} {rt : Option FieldType} {o na : Nat} {st : Bool} (h : rr_fr t As = some F) (hm : rr_m t = some (y, cc, nL, rt, o, na, st)) : (rr_sl As).length ≤ nL ∧ F = (t, 0, rr_ent As nL, []) := by
  obtain ⟨q, h1, h2⟩ := Option.bind_eq_some_iff.mp h
  have e := hm.symm.trans h1
  cases e
  simp only at h2
  split at h2
  · rename_i hc
    exact ⟨hc, (Option.some.inj h2).symm⟩
  · cases h2
set_option maxHeartbeats 4000000 in
/-- a method's contract out of its run -/
theorem rr_met {n : Nat} (ih : rr_Bd n) {l : Launch} {d t : Nat} {As : List Value} {F : rr_F} {G : rr_G} {r : rr_R} {y : MethodName} {cc : ByteArray} {nL : Nat} {rt : Option FieldType} {o na : Nat} {st : Bool} {D : va_G} {cA : Nat → ClassId} {ad : Nat → Nat} {base : Nat} {N : Nat → Nat} {f : Nat → Nat → Int32} (hfr : rr_fr t As = some F) (hrun : rr_run n d F G = some r) (hm : rr_m t = some (y, cc, nL, rt, o, na, st)) (hsz : r.2.1 ≤ 900000) (hro : ∀ k, k < 4 → G.2.2 (1000000 + k) = rr_cI (N k) (f k)) (had : ∀ i, i < 1000000 → ad i = base + i) :
    Met l y (Cond.code y cc nL rt :: rr_WS) ({ frames := d, cells := r.2.1 - G.1, slots := r.2.2.1 - G.2.1, locals := 100 * d }) (va_Pc (As.map (rr_v ad)) (rr_B D cA ad base N f G.1 G.2.2)) (rr_Qc D cA ad base r) (r.2.1 - G.1) (r.2.2.1 - G.2.1) (fun q => base ≤ q) := by
  obtain ⟨hlen, rfl⟩ := rr_fr_inv hfr hm
  obtain ⟨-, -, -, -, hpl, -, -, -, hcn, -⟩ := rr_m_ok hm
  refine Met.ofW (cc := cc) (maxL := nL) (ret := rt) hpl rfl ?_
  intro p e s m args below meth c s₁ B hml hv
  obtain ⟨rfl, hW, hK, hcs, hNW, hRK⟩ := hv
  have hts := atoms_spec (ws := Cond.code y cc nL rt :: rr_WS) B.pre
  have hown := findClass_of_methodNamed B.named
  have hlocks := B.notSynchronized
  have hr := B.returns
  have hnm := (name_of_methodNamed B.named B.method).1
  rw [lg_entry_eq]
  refine ih d (t, 0, rr_ent As nL, []) G r hrun p l e _ s m _ below meth c s.heap [] 0 0 _ D cA ad base N f y cc nL rt o na st _ (rr_mm_of hm) B.exec B.bytes hml (fun hi => hnm.trans hi) ⟨fun w hw => hts w (List.mem_cons_of_mem _ hw), by rw [hcn]; exact hown, hK, hcs, hNW, hRK, had⟩ (Nat.le_refl d) (Nat.le_refl _) (by rw [Nat.zero_add]; exact Nat.le_refl _) (by rw [Nat.zero_add]; exact Nat.le_refl _) hsz hro (rr_LR_ent ad hlen) hW va_S.rf ?_
  intro pc ls' S ins H' locs' hd hret hW' hS'
  refine W.cs (Nat.zero_add _) (Nat.zero_add _) ?_
  have hq : ∀ t2 : State, t2.heap = H' → ∀ v : Option Value, r.1 = v → rr_Qc D cA ad base r (As.map (rr_v ad)).toArray s (.returned (v.map (rr_v ad))) t2 := fun t2 ht v hv => ⟨by rw [hv], by rw [ht]; exact hW', hS'.F ht⟩
  unfold rr_ret at hret
  split at hret
  · split at hret
    · split at hret
      · rename_i v _
        have hv := Option.some.inj hret
        exact W.iret B.exec B.bytes hr (fun t2 ht _ => hq t2 ht _ hv.symm) hS'.2.2 hd hlocks
      · cases hret
    · split at hret
      · rename_i v hc
        have hv := Option.some.inj hret
        refine W.zret B.exec B.bytes hr ?_ (fun t2 ht _ => hq t2 ht _ hv.symm) hS'.2.2 hd hlocks
        rcases hc.2 with rfl | rfl <;> rfl
      · cases hret
    · cases hret
  · split at hret
    · split at hret
      · have hv := Option.some.inj hret
        exact W.lret B.exec B.bytes hr (fun t2 ht _ => hq t2 ht _ hv.symm) hS'.2.2 hd hlocks
      · cases hret
    · cases hret
  · split at hret
    · split at hret
      · rename_i v nm hc
        have hv := Option.some.inj hret
        refine W.aret B.exec B.bytes hr (Or.inl ⟨_, rfl⟩) ?_ (fun t2 ht _ => hq t2 ht _ hv.symm) hS'.2.2 hd hlocks
        have h2 := hc.2
        cases v <;> first | exact Or.inl rfl | exact Or.inr ⟨_, rfl⟩ | (cases h2; done)
      · cases hret
    · cases hret
  · split at hret
    · split at hret
      · have hv := Option.some.inj hret
        exact W.vret B.exec B.bytes hr (fun t2 ht _ => hq t2 ht _ hv.symm) hS'.2.2 hd hlocks
      · cases hret
    · cases hret
  · cases hret

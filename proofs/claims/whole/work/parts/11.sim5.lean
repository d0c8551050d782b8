/-! ===== a run of the core is a run of the machine ===== -/
theorem rr_run_succ (n d : Nat) (F : rr_F) (G : rr_G) : rr_run (n + 1) d F G = (match rr_nx d F G with
    | none => none
    | some (.inl (pc, L, S, sz, us, h)) => rr_run n d (F.1, pc, L, S) (sz, us, h)
    | some (.inr (.inl (t, As, rest))) => match d with
      | 0 => none
      | d' + 1 => (rr_fr t As).bind (fun F' => (rr_run n d' F' G).bind (fun r => rr_run n (d' + 1) (F.1, F.2.1 + 3, F.2.2.1, r.1.toList ++ rest) r.2))
    | some (.inr (.inr v)) => some (v, G)) := by
  obtain ⟨mi, pc, L, S⟩ := F
  rfl
/-- a run's last step, told by its kind -/
theorem rr_run_cases {n d : Nat} {F : rr_F} {G : rr_G} {r : rr_R} (h : rr_run (n + 1) d F G = some r) :
    (∃ q : rr_St, rr_nx d F G = some (.inl q) ∧ rr_run n d (F.1, q.1, q.2.1, q.2.2.1) (q.2.2.2.1, q.2.2.2.2.1, q.2.2.2.2.2) = some r) ∨
    (∃ t As rest d' F' r1, rr_nx d F G = some (.inr (.inl (t, As, rest))) ∧ d = d' + 1 ∧ rr_fr t As = some F' ∧ rr_run n d' F' G = some r1 ∧ rr_run n d (F.1, F.2.1 + 3, F.2.2.1, r1.1.toList ++ rest) r1.2 = some r) ∨
    (∃ v, rr_nx d F G = some (.inr (.inr v)) ∧ r = (v, G)) := by
  rw [rr_run_succ] at h
  cases hx : rr_nx d F G with
  | none => rw [hx] at h; cases h
  | some a =>
    rw [hx] at h
    obtain ⟨pc, L, S, sz, us, hh⟩ | ⟨t, As, rest⟩ | v := a
    · exact Or.inl ⟨_, rfl, h⟩
    · cases d with
      | zero => cases h
      | succ d' =>
        simp only at h
        obtain ⟨F', h1, h⟩ := Option.bind_eq_some_iff.mp h
        obtain ⟨r1, h2, h⟩ := Option.bind_eq_some_iff.mp h
        exact Or.inr (Or.inl ⟨t, As, rest, d', F', r1, rfl, rfl, h1, h2, h⟩)
    · exact Or.inr (Or.inr ⟨v, rfl, (Option.some.inj h).symm⟩)
theorem rr_nx_inv {d : Nat} {F : rr_F} {G : rr_G} {a : rr_Act} (h : rr_nx d F G = some a) : ∃ (y : MethodName) (cc : ByteArray) (nL : Nat) (rt : Option FieldType) (o na : Nat) (st : Bool) (ins : Instr) (len : Nat), rr_mm F.1 = some (y, cc, nL, rt, o, na, st) ∧ decode cc F.2.1 = .ok (ins, len) ∧ rr_act d o (decide (y.name = "<init>")) rt ins len F.2.1 F.2.2.1 F.2.2.2 G.1 G.2.1 G.2.2 = some a := by
  obtain ⟨⟨y, cc, nL, rt, o, na, st⟩, h1, h2⟩ := Option.bind_eq_some_iff.mp h
  simp only at h2
  split at h2
  · rename_i ins len hd
    exact ⟨y, cc, nL, rt, o, na, st, ins, len, h1, hd, h2⟩
  · cases h2
theorem rr_nop_pos {o len sz : Nat} {ins : Instr} {S : List Value} {h : rr_H} {q} (hs : rr_nop o ins len S sz h = some q) : 1 ≤ q.2.2.1 := by
  unfold rr_nop at hs
  split at hs
  · obtain ⟨ci, -, hs⟩ := Option.bind_eq_some_iff.mp hs
    obtain ⟨fs, -, hs⟩ := Option.bind_eq_some_iff.mp hs
    split at hs
    · cases hs; exact Nat.le_refl _
    · cases hs
  all_goals (try (split at hs))
  all_goals (try (split at hs))
  all_goals first | (cases hs; done) | (cases hs; simp)
/-- cells and slots only grow -/
theorem rr_run_mono : ∀ (n d : Nat) (F : rr_F) (G : rr_G) (r : rr_R), rr_run n d F G = some r → G.1 ≤ r.2.1 ∧ G.2.1 ≤ r.2.2.1
  | 0, d, F, G, r, h => by cases h
  | n + 1, d, F, G, r, h => by
    rcases rr_run_cases h with ⟨q, h1, h2⟩ | ⟨t, As, rest, d', F', r1, h1, rfl, h3, h4, h5⟩ | ⟨v, h1, rfl⟩
    · have ih := rr_run_mono n d _ _ r h2
      obtain ⟨y, cc, nL, rt, o, na, st, ins, len, -, -, ha⟩ := rr_nx_inv h1
      have key : G.1 ≤ q.2.2.2.1 ∧ G.2.1 ≤ q.2.2.2.2.1 := by
        rcases rr_act_cases ha with ⟨z, -, e⟩ | ⟨z, -, e⟩ | ⟨z, -, e⟩ | ⟨z, -, e⟩ | ⟨z, -, e⟩ | ⟨z, -, e⟩ | ⟨i, z, -, -, -, -, -, e⟩ | ⟨i, t, z, -, -, -, -, -, -, e⟩ | ⟨i, z, -, -, e⟩ | ⟨i, z, -, -, e⟩ | ⟨i, z, -, -, e⟩ | ⟨z, -, e⟩
        all_goals first | (cases e; done) | (cases e; exact ⟨Nat.le_refl _, Nat.le_refl _⟩) | (cases e; exact ⟨Nat.le_add_right _ _, Nat.le_add_right _ _⟩)
      exact ⟨Nat.le_trans key.1 ih.1, Nat.le_trans key.2 ih.2⟩
    · have i1 := rr_run_mono n d' _ _ r1 h4
      have i2 := rr_run_mono n (d' + 1) _ _ r h5
      exact ⟨Nat.le_trans i1.1 i2.1, Nat.le_trans i1.2 i2.2⟩
    · exact ⟨Nat.le_refl _, Nat.le_refl _⟩
theorem rr_ld_app {L : rr_L} {n i : Nat} {v : Value} (h : rr_ld (L ++ List.replicate n none) i = some v) : rr_ld L i = some v := by
  unfold rr_ld at h ⊢
  by_cases hi : i < L.length
  · rw [List.getElem?_append_left hi] at h
    exact h
  · rw [List.getElem?_append_right (by omega), List.getElem?_replicate] at h
    split at h <;> cases h
theorem rr_sl_args (ad : Nat → Nat) : ∀ (As : List Value) (k i : Nat) (v : Value), rr_ld (rr_sl As) i = some v → (k + i, rr_v ad v) ∈ lv_args k (As.map (rr_v ad))
  | [], k, i, v, h => by simp [rr_sl, rr_ld] at h
  | a :: As, k, i, v, h => by
    have e : rr_sl (a :: As) = (if a.category = 2 then [some a, none] else [some a]) ++ rr_sl As := by simp [rr_sl]
    rw [e] at h
    show (k + i, rr_v ad v) ∈ (k, rr_v ad a) :: lv_args (if (rr_v ad a).category = 2 then k + 2 else k + 1) (As.map (rr_v ad))
    rw [rr_v_cat]
    by_cases hc : a.category = 2
    · rw [if_pos hc] at h ⊢
      match i, h with
      | 0, h => cases h; exact List.mem_cons_self
      | 1, h => cases h
      | i + 2, h =>
        have h2 := rr_sl_args ad As (k + 2) i v h
        rw [show k + (i + 2) = k + 2 + i by omega]
        exact List.mem_cons_of_mem _ h2
    · rw [if_neg hc] at h ⊢
      match i, h with
      | 0, h => cases h; exact List.mem_cons_self
      | i + 1, h =>
        have h2 := rr_sl_args ad As (k + 1) i v h
        rw [show k + (i + 1) = k + 1 + i by omega]
        exact List.mem_cons_of_mem _ h2
theorem rr_sl_len (ad : Nat → Nat) (As : List Value) : (lg_sl (As.map (rr_v ad))).length = (rr_sl As).length := by
  induction As with
  | nil => rfl
  | cons a As ih =>
    have e1 : rr_sl (a :: As) = (if a.category = 2 then [some a, none] else [some a]) ++ rr_sl As := by simp [rr_sl]
    have e2 : lg_sl ((a :: As).map (rr_v ad)) = (if (rr_v ad a).category = 2 then [Slot.val (rr_v ad a), .second] else [.val (rr_v ad a)]) ++ lg_sl (As.map (rr_v ad)) := by simp [lg_sl]
    rw [e1, e2, List.length_append, List.length_append, ih, rr_v_cat]
    by_cases hc : a.category = 2 <;> simp [hc]
theorem rr_LR_ent (ad : Nat → Nat) {As : List Value} {n : Nat} (h : (rr_sl As).length ≤ n) : rr_LR ad (rr_ent As n) ((lg_sl (As.map (rr_v ad)) ++ List.replicate (n - (lg_sl (As.map (rr_v ad))).length) Slot.unset).toArray) n := by
  have hl := lv_entry (As.map (rr_v ad)) (n := n) (by rw [rr_sl_len]; exact h)
  refine ⟨?_, hl.1, hl.2.1, fun i v hv => ?_⟩
  · simp only [rr_ent, List.length_append, List.length_replicate]; omega
  · have h2 := rr_sl_args ad As 0 i v (rr_ld_app hv)
    rw [Nat.zero_add] at h2
    exact hl.2.2 _ h2
/-- what is carried from caller to callee -/
def rr_B (D : va_G) (cA : Nat → ClassId) (ad : Nat → Nat) (base : Nat) (N : Nat → Nat) (f : Nat → Nat → Int32) (sz : Nat) (h : rr_H) (U : State) : Prop :=
  rr_W D cA ad base sz h U.heap ∧ va_K D vwCl [] U ∧ rr_cs cA U ∧ rr_NW U ∧ rr_RK ad (fun q => base ≤ q) N f U U.heap
theorem rr_B_blind {D : va_G} {cA : Nat → ClassId} {ad : Nat → Nat} {base : Nat} {N : Nat → Nat} {f : Nat → Nat → Int32} {sz : Nat} {h : rr_H} {av : List Value} : FrameBlind (va_Pc av (rr_B D cA ad base N f sz h)) := by
  intro a U g mk ⟨ha, h1, h2, h3, h4, h5⟩
  have h6 : rr_NW (U.calling g mk a) := by
    refine ⟨fun w hw hn => ?_, h4.2.1.moved (u := U) (U := U.calling g mk a) (Vm.Alike.refl U.vm), h4.2.2.moved (u := U) (U := U.calling g mk a) (Vm.Alike.refl U.vm)⟩
    have e : U.vm = (U.calling g mk a).vm := rfl
    have h7 := h4.1 w hw hn
    cases w <;> first | exact va_Nw.same rfl e h7 | (cases hn; done)
  exact ⟨ha, h1, va_K.moved (u := U) (U := U.calling g mk a) (Vm.Alike.refl U.vm) h2, rr_cs.moved (u := U) (U := U.calling g mk a) (Vm.Alike.refl U.vm) h3, h6, rr_RK.moved (u := U) (U := U.calling g mk a) (Vm.Alike.refl U.vm) h5⟩
def rr_Qc (D : va_G) (cA : Nat → ClassId) (ad : Nat → Nat) (base : Nat) (r : rr_R) : Array Value → State → Outcome → State → Prop := fun _ st oc t =>
  oc = .returned (r.1.map (rr_v ad)) ∧ rr_W D cA ad base r.2.1 r.2.2.2 t.heap ∧ va_F (fun q => base ≤ q) st t
section RR5
variable {p : Program} {l : Launch} {e : Env} {R : Room} {s : State} {m : MethodId} {args : Array Value} {below : List Frame} {meth : Method} {c : Code} {H : Heap} {locs : List Loc} {cells slots : Nat} {Q : State → Prop}
theorem rr_callG {mc ms pc : Nat} {ls : Array Slot} {rest st0 : List Value} {a : Array Value} {D : va_G} {cA : Nat → ClassId} {ad : Nat → Nat} {base : Nat} {r : rr_R} (hr : va_Run p l e R s m args below meth c H locs cells slots mc ms (F0 m pc ls st0) rest (rr_Qc D cA ad base r a) (fun q => base ≤ q)) (hS : va_S (fun q => base ≤ q) s.heap H locs)
    (kk : ∀ (H1 : Heap) (locs1 : List Loc), rr_W D cA ad base r.2.1 r.2.2.2 H1 → va_S (fun q => base ≤ q) s.heap H1 locs1 → W p l e R s m args below meth c H1 locs1 (cells + mc) (slots + ms) Q (F0 m (pc + 3) ls ((r.1.map (rr_v ad)).toList ++ rest))) : W p l e R s m args below meth c H locs cells slots Q (F0 m pc ls st0) := by
  intro T hT X
  obtain ⟨v, st₀, t, T', L, h0, X', hL, e1, e2, ⟨hv, hp, hz, hk⟩, st⟩ := hr T hT X
  cases hv
  rw [h0] at hz hk
  obtain ⟨t2, a1, b1⟩ := kk T'.heap (locs ++ L) (by rw [e1]; exact hp) ⟨Nat.le_trans hS.1 (by rw [e1]; exact hz), fun q h1 h2 => by rw [e1, hk q (Nat.lt_of_lt_of_le h1 hS.1) h2]; exact hS.2.1 q h1 h2, fun q hq => by
      rcases List.mem_append.mp hq with h | h
      · exact hS.2.2 q h
      · exact hL q h⟩ T' rfl X'
  exact ⟨t2, st t2 a1, b1⟩
end RR5
/-- a method's row, and all that its words say -/
theorem rr_m_ok {t : Nat} {y : MethodName} {cc : ByteArray} {nL : Nat} {rt : Option FieldType} {o na : Nat} {st : Bool} (h : rr_m t = some (y, cc, nL, rt, o, na, st)) :
    Cond.code y cc nL rt ∈ rr_WS ∧ (if st = true then Cond.static y ∈ rr_WS else Cond.instanceMethod y ∈ rr_WS) ∧ (st = true ∨ y.name = "<init>" ∨ Cond.selects y.cls y y ∈ rr_WS) ∧ Cond.initialized y.cls ∈ rr_WS ∧ plainName y.cls = true ∧ y.cls ≠ "java/lang/invoke/MethodHandle" ∧ y.cls ≠ "java/lang/invoke/VarHandle" ∧ (parseMethodDescriptor y.desc).map (fun d => d.parameters.length) = some (if st = true then na else na - 1) ∧ rr_cn o = y.cls ∧ nL ≤ 16 ∧ (st = true ∨ 1 ≤ na) ∧ (y.name = "<init>" → rt = none ∧ st = false) := by
  obtain ⟨⟨q, p1, p2, p3, p4⟩, h1, h2⟩ := Option.map_eq_some_iff.mp h
  cases h2
  have h3 := List.all_eq_true.mp rr_okM_all _ (List.mem_of_getElem? h1)
  simp only [rr_okM, Bool.and_eq_true, Bool.or_eq_true, decide_eq_true_eq, Bool.not_eq_true', decide_eq_false_iff_not] at h3
  obtain ⟨⟨⟨⟨⟨⟨⟨⟨⟨⟨⟨a1, a2⟩, a3⟩, a4⟩, a5⟩, a6⟩, a7⟩, a8⟩, a9⟩, a10⟩, a11⟩, a12⟩ := h3
  refine ⟨rr_atC_mem a1, ?_, ?_, rr_at_mem a4, a5, a6, a7, a8, a9, a10, a11, ?_⟩
  · by_cases hst : st = true
    · rw [if_pos hst] at a2 ⊢; exact rr_at_mem a2
    · rw [if_neg hst] at a2 ⊢; exact rr_at_mem a2
  · rcases a3 with (z | z) | z
    · exact Or.inl z
    · exact Or.inr (Or.inl z)
    · exact Or.inr (Or.inr (rr_at_mem z))
  · intro hi
    rcases a12 with z | z
    · exact absurd hi z
    · exact z

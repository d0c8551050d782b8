/-! ===== how the core machine's values, locals and cells stand on the machine ===== -/
def rr_v (ad : Nat → Nat) : Value → Value
  | .ref k => .ref (ad k)
  | v => v
theorem rr_v_cat (ad : Nat → Nat) (v : Value) : (rr_v ad v).category = v.category := by cases v <;> rfl
theorem rr_v_rf (ad : Nat → Nat) (r : Option Nat) : rr_v ad (va_rf r) = va_rf (r.map ad) := by cases r <;> rfl
def rr_LR (ad : Nat → Nat) (L : rr_L) (ls : Array Slot) (nL : Nat) : Prop := L.length = nL ∧ ls.size = nL ∧ lv_wf ls ∧ ∀ (i : Nat) (v : Value), rr_ld L i = some v → ls[i]? = some (.val (rr_v ad v))
def rr_as (ad : Nat → Nat) (L : rr_L) (nL : Nat) : List (Nat × Value) := (List.range nL).filterMap (fun i => (rr_ld L i).map (fun v => (i, rr_v ad v)))
theorem rr_ld_lt {L : rr_L} {i : Nat} {v : Value} (h : rr_ld L i = some v) : i < L.length := by
  unfold rr_ld at h
  cases hi : L[i]? with
  | none => rw [hi] at h; cases h
  | some x => exact (List.getElem?_eq_some_iff.mp hi).1
theorem rr_as_mem {ad : Nat → Nat} {L : rr_L} {nL i : Nat} {v : Value} (hl : L.length = nL) (h : rr_ld L i = some v) : (i, rr_v ad v) ∈ rr_as ad L nL :=
  List.mem_filterMap.mpr ⟨i, List.mem_range.mpr (hl ▸ rr_ld_lt h), by rw [h]; rfl⟩
theorem rr_as_inv {ad : Nat → Nat} {L : rr_L} {nL : Nat} {q : Nat × Value} (h : q ∈ rr_as ad L nL) : ∃ v, rr_ld L q.1 = some v ∧ q.2 = rr_v ad v := by
  obtain ⟨i, -, hi⟩ := List.mem_filterMap.mp h
  cases hv : rr_ld L i with
  | none => rw [hv] at hi; cases hi
  | some v => rw [hv] at hi; cases hi; exact ⟨v, hv, rfl⟩
theorem rr_LR.has {ad : Nat → Nat} {L : rr_L} {ls : Array Slot} {nL : Nat} (h : rr_LR ad L ls nL) : lv_has ls nL (rr_as ad L nL) :=
  ⟨h.2.1, h.2.2.1, fun q hq => by
    obtain ⟨v, h1, h2⟩ := rr_as_inv hq
    rw [h2]
    exact h.2.2.2 _ _ h1⟩
theorem rr_ld_set {L : rr_L} {i j : Nat} {x : Option Value} : rr_ld (L.set i x) j = if i = j ∧ j < L.length then x else rr_ld L j := by
  unfold rr_ld
  rw [List.getElem?_set]
  by_cases hij : i = j
  · subst hij
    by_cases hl : i < L.length
    · simp [hl]
    · simp [hl]
  · simp [hij]
theorem rr_md_len : ∀ (L : rr_L) (i : Nat), (rr_md L i).length = L.length
  | [], _ => rfl
  | _ :: _, 0 => rfl
  | _ :: L, i + 1 => congrArg (· + 1) (rr_md_len L i)
theorem rr_kl_len (L : rr_L) (i : Nat) : (rr_kl L i).length = L.length := by
  cases i with
  | zero => rfl
  | succ j => exact rr_md_len L j
theorem rr_md_ld : ∀ (L : rr_L) (i j : Nat) (w : Value), rr_ld (rr_md L i) j = some w → rr_ld L j = some w ∧ ¬ (j = i ∧ w.category = 2)
  | [], i, j, w, h => by simp [rr_md, rr_ld] at h
  | a :: L, 0, 0, w, h => by
    have h1 : rr_nk a = some w := h
    refine ⟨?_, ?_⟩
    · show a = some w
      cases a with
      | none => cases h1
      | some v => cases v <;> first | exact h1 | cases h1
    · rintro ⟨-, hc⟩
      cases a with
      | none => cases h1
      | some v => cases v <;> first | (cases h1; done) | (cases h1; cases hc)
  | a :: L, 0, j + 1, w, h => ⟨h, fun q => by omega⟩
  | a :: L, i + 1, 0, w, h => ⟨h, fun q => by omega⟩
  | a :: L, i + 1, j + 1, w, h => by
    obtain ⟨h1, h2⟩ := rr_md_ld L i j w h
    exact ⟨h1, fun q => h2 ⟨by omega, q.2⟩⟩
theorem rr_kl_ld {L : rr_L} {i j : Nat} {w : Value} (h : rr_ld (rr_kl L i) j = some w) : rr_ld L j = some w ∧ ¬ (j + 1 = i ∧ w.category = 2) := by
  cases i with
  | zero => exact ⟨h, fun q => by omega⟩
  | succ k =>
    obtain ⟨h1, h2⟩ := rr_md_ld L k j w h
    exact ⟨h1, fun q => h2 ⟨by omega, q.2⟩⟩
theorem rr_LR.s1 {ad : Nat → Nat} {L : rr_L} {ls' : Array Slot} {nL i : Nat} {v : Value} (hl : L.length = nL)
    (h' : lv_has ls' nL ((i, rr_v ad v) :: (rr_as ad L nL).filter (fun q => !(q.1 == i) && !(q.1 + 1 == i && q.2.category == 2)))) : rr_LR ad (rr_s1 L i v) ls' nL := by
  refine ⟨by simp [rr_s1, rr_kl_len, hl], h'.1, h'.2.1, fun j w hj => ?_⟩
  unfold rr_s1 at hj
  rw [rr_ld_set] at hj
  by_cases hij : i = j ∧ j < (rr_kl L i).length
  · rw [if_pos hij] at hj
    cases hj
    rw [← hij.1]
    exact h'.2.2 _ List.mem_cons_self
  · rw [if_neg hij] at hj
    obtain ⟨h1, h2⟩ := rr_kl_ld hj
    have hne : ¬ j = i := fun q => hij ⟨q.symm, by rw [rr_kl_len]; exact rr_ld_lt h1⟩
    refine h'.2.2 (j, rr_v ad w) (List.mem_cons_of_mem _ (List.mem_filter.mpr ⟨rr_as_mem hl h1, ?_⟩))
    simp only [Bool.and_eq_true, Bool.not_eq_true', beq_eq_false_iff_ne, ne_eq, Bool.and_eq_false_iff, rr_v_cat]
    refine ⟨hne, ?_⟩
    by_cases hj1 : j + 1 = i
    · exact Or.inr (fun q => h2 ⟨hj1, q⟩)
    · exact Or.inl hj1
theorem rr_LR.s2 {ad : Nat → Nat} {L : rr_L} {ls' : Array Slot} {nL i : Nat} {v : Value} (hl : L.length = nL)
    (h' : lv_has ls' nL ((i, rr_v ad v) :: (rr_as ad L nL).filter (fun q => !(q.1 == i) && (!(q.1 == i + 1) && !(q.1 + 1 == i && q.2.category == 2))))) : rr_LR ad (rr_s2 L i v) ls' nL := by
  refine ⟨by simp [rr_s2, rr_kl_len, hl], h'.1, h'.2.1, fun j w hj => ?_⟩
  unfold rr_s2 at hj
  rw [rr_ld_set] at hj
  by_cases hij1 : i + 1 = j ∧ j < ((rr_kl L i).set i (some v)).length
  · rw [if_pos hij1] at hj; cases hj
  rw [if_neg hij1, rr_ld_set] at hj
  by_cases hij : i = j ∧ j < (rr_kl L i).length
  · rw [if_pos hij] at hj
    cases hj
    rw [← hij.1]
    exact h'.2.2 _ List.mem_cons_self
  · rw [if_neg hij] at hj
    obtain ⟨h1, h2⟩ := rr_kl_ld hj
    have hne : ¬ j = i := fun q => hij ⟨q.symm, by rw [rr_kl_len]; exact rr_ld_lt h1⟩
    have hne1 : ¬ j = i + 1 := fun q => hij1 ⟨q.symm, by rw [List.length_set, rr_kl_len]; exact rr_ld_lt h1⟩
    refine h'.2.2 (j, rr_v ad w) (List.mem_cons_of_mem _ (List.mem_filter.mpr ⟨rr_as_mem hl h1, ?_⟩))
    simp only [Bool.and_eq_true, Bool.not_eq_true', beq_eq_false_iff_ne, ne_eq, Bool.and_eq_false_iff, rr_v_cat]
    refine ⟨hne, hne1, ?_⟩
    by_cases hj1 : j + 1 = i
    · exact Or.inr (fun q => h2 ⟨hj1, q⟩)
    · exact Or.inl hj1
/-! the world's constants: classes, array classes, words by the nest -/
def rr_cs (cA : Nat → ClassId) (U : State) : Prop :=
  (ArrOfT U (cA 0) .int ∧ va_RA U (cA 0) .int) ∧ (ArrOfT U (cA 1) .long ∧ va_RA U (cA 1) .long) ∧ (ArrOfT U (cA 2) (.object "RainPurse$Sheet") ∧ va_RA U (cA 2) (.object "RainPurse$Sheet")) ∧ (ArrOfT U (cA 3) (.array .int) ∧ va_RA U (cA 3) (.array .int))
theorem rr_cs.moved {cA : Nat → ClassId} {u U : State} (hvm : u.vm.Alike U.vm) (h : rr_cs cA u) : rr_cs cA U :=
  ⟨⟨arrOfT_moved hvm h.1.1, h.1.2.moved hvm⟩, ⟨arrOfT_moved hvm h.2.1.1, h.2.1.2.moved hvm⟩, ⟨arrOfT_moved hvm h.2.2.1.1, h.2.2.1.2.moved hvm⟩, ⟨arrOfT_moved hvm h.2.2.2.1, h.2.2.2.2.moved hvm⟩⟩
/-- the words that are asked of the tables anew at each state -/
def rr_isN : Cond → Bool
  | .methodLinkNest _ _ _ _ => true
  | .fieldLinkNest _ _ _ _ _ _ => true
  | _ => false
def rr_AA (U : State) : Prop := (Cond.arrayOver (.array .int)).before #[] U = true
theorem rr_AA.moved {u U : State} (hvm : u.vm.Alike U.vm) (h : rr_AA u) : rr_AA U := by
  obtain ⟨comp, c, k, h1, h2, h3, h4, h5⟩ := arrayOverA_spec h
  obtain ⟨k', hk', he⟩ := hvm.2.2 _ _ h3
  have hi : (U.vm.classes.findIdx? fun (x : Class) => match x.kind with | .array component _ => component == comp | _ => false) = some c := by
    rw [hvm.findIdx?_eq _ (fun _ => rfl)]
    exact h2
  have hkind : k'.kind = .array comp (.array .int) := by rw [he]; exact h4
  have f1 : U.vm.findClass (FieldType.array .int).toString = some comp := by rw [hvm.findClass]; exact h1
  have f2 : U.vm.findClass ("[" ++ (FieldType.array .int).toString) = some c := by rw [hvm.findClass]; exact h5
  unfold rr_AA Cond.before Cond.holds
  simp only [Cond.value]
  rw [f1, Option.bind_some]
  refine (congrArg (fun o : Option Nat => (o.bind (fun c => (U.vm.classes[c]?).map fun (k : Class) => match k.kind with | .array _ ty => decide (ty = FieldType.array .int) && decide (U.vm.findClass ("[" ++ (FieldType.array .int).toString) = some c) | _ => false) == some true)) hi).trans ?_
  simp [hk', hkind, f2]
def rr_NW (U : State) : Prop := (∀ w ∈ lw_tbl, rr_isN w = true → va_Nw w U) ∧ va_AO "RainPurse$Sheet" U ∧ rr_AA U
theorem rr_NW.warm {s U : State} (hW : s.WarmedH U.vm) (h : rr_NW s) : rr_NW U := by
  refine ⟨fun w hw hn => ?_, h.2.1.moved hW.alike, h.2.2.moved hW.alike⟩
  have h1 := h.1 w hw hn
  cases w <;> first | exact va_Nw.warmM hW h1 | exact va_Nw.warmF hW h1 | cases hn
/-! a cell -/
def rr_at1 (D : va_G) (cA : Nat → ClassId) (ad : Nat → Nat) (a : Nat) (c : rr_C) (H : Heap) : Prop := match c with
  | .inl (n, f) => H[a]? = some (arrV (cA 0) n (fun j => .int (f j)))
  | .inr (.inl (n, f)) => H[a]? = some (arrV (cA 1) n (fun j => .long (f j)))
  | .inr (.inr (.inl (t, n, f))) => H[a]? = some (arrV (cA (2 + t)) n (fun j => va_rf ((f j).map ad)))
  | .inr (.inr (.inr (ci, fs))) => ∃ r : vw_C, vwCl[ci]? = some r ∧ t_OB a (D.1 ci) r.2.2 (D.2 ci) H (vp_V (fs.map (rr_v ad)))
theorem rr_at1.kept {D : va_G} {cA : Nat → ClassId} {ad : Nat → Nat} {a : Nat} {c : rr_C} {H H1 : Heap} (h : rr_at1 D cA ad a c H) (hq : H1[a]? = H[a]?) : rr_at1 D cA ad a c H1 := by
  obtain ⟨n, f⟩ | ⟨n, f⟩ | ⟨t, n, f⟩ | ⟨ci, fs⟩ := c
  · exact hq.trans h
  · exact hq.trans h
  · exact hq.trans h
  · obtain ⟨r, h1, h2⟩ := h
    exact ⟨r, h1, h2.kept hq⟩
def rr_W (D : va_G) (cA : Nat → ClassId) (ad : Nat → Nat) (base sz : Nat) (h : rr_H) (H : Heap) : Prop := H.size = base + sz ∧ ∀ i, i < sz → rr_at1 D cA ad (base + i) (h i) H
theorem rr_W.up {D : va_G} {cA : Nat → ClassId} {ad : Nat → Nat} {base sz : Nat} {h : rr_H} {H H1 : Heap} {a : Nat} {c : rr_C} (hW : rr_W D cA ad base sz h H) (hz : H1.size = H.size) (hc : rr_at1 D cA ad (base + a) c H1) (ho : ∀ q : Nat, q ≠ base + a → H1[q]? = H[q]?) : rr_W D cA ad base sz (rr_up h a c) H1 := by
  refine ⟨hz.trans hW.1, fun i hi => ?_⟩
  unfold rr_up
  by_cases hia : i = a
  · subst hia
    rw [if_pos rfl]
    exact hc
  · rw [if_neg hia]
    exact (hW.2 i hi).kept (ho _ (by omega))
theorem rr_W.push {D : va_G} {cA : Nat → ClassId} {ad : Nat → Nat} {base sz : Nat} {h : rr_H} {H H1 : Heap} {c : rr_C} (hW : rr_W D cA ad base sz h H) (hz : H1.size = H.size + 1) (hc : rr_at1 D cA ad (base + sz) c H1) (ho : ∀ q : Nat, q < H.size → H1[q]? = H[q]?) : rr_W D cA ad base (sz + 1) (rr_up h sz c) H1 := by
  refine ⟨by rw [hz, hW.1]; rfl, fun i hi => ?_⟩
  unfold rr_up
  by_cases hia : i = sz
  · subst hia
    rw [if_pos rfl]
    exact hc
  · rw [if_neg hia]
    exact (hW.2 i (by omega)).kept (ho _ (by rw [hW.1]; omega))
/-! the four arrays that nobody writes -/
def rr_RK (ad : Nat → Nat) (A : Nat → Prop) (N : Nat → Nat) (f : Nat → Nat → Int32) (U : State) (H : Heap) : Prop :=
  (∀ k, k < 3 → va_Z (rr_st k).1 (rr_st k).2 "[I" (.ref (ad (1000000 + k))) A U H) ∧ ∀ k, k < 4 → va_T .int (ad (1000000 + k)) (N k) (fun j => .int (f k j)) A U H
theorem rr_RK.kept {ad : Nat → Nat} {A : Nat → Prop} {N : Nat → Nat} {f : Nat → Nat → Int32} {U : State} {H H1 : Heap} (h : rr_RK ad A N f U H) (hq : ∀ a : Nat, a < H.size → ¬ A a → H1[a]? = H[a]?) : rr_RK ad A N f U H1 :=
  ⟨fun k hk => (h.1 k hk).kept hq, fun k hk => (h.2 k hk).kept hq⟩
theorem rr_RK.moved {ad : Nat → Nat} {A : Nat → Prop} {N : Nat → Nat} {f : Nat → Nat → Int32} {u U : State} {H : Heap} (hvm : u.vm.Alike U.vm) (h : rr_RK ad A N f u H) : rr_RK ad A N f U H :=
  ⟨fun k hk => (h.1 k hk).moved hvm, fun k hk => (h.2 k hk).moved hvm⟩

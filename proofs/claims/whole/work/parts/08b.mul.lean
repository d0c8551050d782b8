/-! ===== a new array of rows of ints, in one step of the machine ===== -/
/-- what the outer array holds when i of its rows have come -/
def rr_mf (h i j : Nat) : Value := va_rf (if j < i then some (h + 1 + j) else none)
/-- the state with the outer array and i rows of k ints each -/
def rr_mu (T : State) (cO cI : ClassId) (n k : Nat) : Nat → State
  | 0 => T.pushCell (arrV cO n fun j => rr_mf T.heap.size 0 j)
  | i + 1 => ((rr_mu T cO cI n k i).pushCell (arrV cI k fun _ => .int 0)).setCell T.heap.size (arrV cO n fun j => rr_mf T.heap.size (i + 1) j)
theorem rr_mf_step (cO : ClassId) (n h i : Nat) : (arrV cO n fun j => rr_mf h i j).setSlot i (.ref (h + 1 + i)) = arrV cO n fun j => rr_mf h (i + 1) j := by
  rw [arrV_store]
  refine congrArg (arrV cO n) (funext fun j => ?_)
  unfold updV rr_mf
  by_cases e : j = i
  · simp [e, va_rf]
  · have e2 : j < i + 1 ↔ j < i := by omega
    simp [e, e2]
theorem rr_mu_all (T : State) (cO cI : ClassId) (n k : Nat) : ∀ i : Nat, (rr_mu T cO cI n k i).heap.size = T.heap.size + 1 + i ∧ (rr_mu T cO cI n k i).vm = T.vm ∧ (rr_mu T cO cI n k i).slotsUsed = T.slotsUsed + (n + i * k) ∧
    ∀ q : Nat, q < T.heap.size + 1 + i → (rr_mu T cO cI n k i).heap[q]? = if q < T.heap.size then T.heap[q]? else if q = T.heap.size then some (arrV cO n fun j => rr_mf T.heap.size i j) else some (arrV cI k fun _ => .int 0)
  | 0 => by
    refine ⟨by simp [rr_mu], rfl, by simp [rr_mu, arrV_size], fun q hq => ?_⟩
    by_cases h1 : q < T.heap.size
    · rw [if_pos h1]
      exact State.heap_pushCell_of_lt _ _ h1
    · have h2 : q = T.heap.size := by omega
      subst h2
      rw [if_neg h1, if_pos rfl]
      exact State.heap_pushCell_size _ _
  | i + 1 => by
    obtain ⟨a1, a2, a3, a4⟩ := rr_mu_all T cO cI n k i
    have b1 : (rr_mu T cO cI n k (i + 1)).heap = ((rr_mu T cO cI n k i).heap.push (arrV cI k fun _ => .int 0)).setIfInBounds T.heap.size (arrV cO n fun j => rr_mf T.heap.size (i + 1) j) := rfl
    refine ⟨by rw [b1, Array.size_setIfInBounds, Array.size_push, a1]; omega, a2, ?_, fun q hq => ?_⟩
    · show (rr_mu T cO cI n k i).slotsUsed + _ = _
      rw [a3, arrV_size, Nat.succ_mul]
      omega
    · rw [b1, Array.getElem?_setIfInBounds, Array.size_push, a1, Array.getElem?_push, a1]
      by_cases h1 : q < T.heap.size
      · rw [if_neg (by omega), if_neg (by omega), if_pos h1, a4 q (by omega), if_pos h1]
      · by_cases h2 : q = T.heap.size
        · rw [if_pos h2.symm, if_pos (by omega), if_neg h1, if_pos h2]
        · rw [if_neg (fun e => h2 e.symm), if_neg h1, if_neg h2]
          by_cases h3 : q = T.heap.size + 1 + i
          · rw [if_pos h3]
          · rw [if_neg h3, a4 q (by omega), if_neg h1, if_neg h2]
theorem rr_mu_setTop (T : State) (g : JFrame) (cO cI : ClassId) (n k : Nat) : ∀ i : Nat, rr_mu (T.setTop g) cO cI n k i = (rr_mu T cO cI n k i).setTop g
  | 0 => rfl
  | i + 1 => by
    show ((rr_mu (T.setTop g) cO cI n k i).pushCell _).setCell T.heap.size _ = _
    rw [rr_mu_setTop T g cO cI n k i]
    rfl
section RRM
variable {p : Program} {l : Launch} {e : Env} {R : Room} {s : State} {m : MethodId} {args : Array Value} {below : List Frame} {meth : Method} {c : Code} {locs : List Loc} {cells slots : Nat}
theorem rr_mu_stand {T : State} (X : Stand p l e R s m args below meth c T locs cells slots) (cO cI : ClassId) (n k : Nat) : ∀ i : Nat, ∃ L : List Loc, (∀ q ∈ L, q.base = T.heap.size) ∧ Stand p l e R s m args below meth c (rr_mu T cO cI n k i) (locs ++ L) (cells + (1 + i)) (slots + (n + i * k))
  | 0 => by
    have h := X.pushed (arrV cO n fun j => rr_mf T.heap.size 0 j)
    rw [arrV_size] at h
    exact ⟨[], fun q hq => absurd hq List.not_mem_nil, by simpa [rr_mu] using h⟩
  | i + 1 => by
    obtain ⟨L, hL, Xi⟩ := rr_mu_stand X cO cI n k i
    obtain ⟨a1, -, -, a4⟩ := rr_mu_all T cO cI n k i
    have hc := a4 T.heap.size (by omega)
    rw [if_neg (Nat.lt_irrefl _), if_pos rfl] at hc
    have hlt : T.heap.size < (rr_mu T cO cI n k i).heap.size := by rw [a1]; omega
    have h := (Xi.pushed (arrV cI k fun _ => .int 0)).stored (a := T.heap.size) (by rw [State.heap_pushCell_of_lt _ _ hlt]; exact hc) i (.ref (T.heap.size + 1 + i))
    rw [rr_mf_step, arrV_size] at h
    refine ⟨L ++ [⟨T.heap.size, i⟩], fun q hq => ?_, ?_⟩
    · rcases List.mem_append.mp hq with h1 | h1
      · exact hL q h1
      · rw [List.mem_singleton.mp h1]
    · rw [← List.append_assoc, show cells + (1 + (i + 1)) = cells + (1 + i) + 1 by omega, show slots + (n + (i + 1) * k) = slots + (n + i * k) + k by rw [Nat.succ_mul]; omega]
      exact h
end RRM
section RRM2
variable {E : CtlPost} {e : Env} {d : Bool} {acts : List Action} {s : State}
theorem rr_mu_one {cA cc : ClassId} {kA : Class} {ty : FieldType} {len : Nat} {v : Value} (hk : s.vm.classes[cA]? = some kA) (hkind : kA.kind = .array cc ty) (hl : ¬ len > e.platform.arrayLengthLimit) (hh : ¬ len * componentBytes ty > e.platform.maxHeapBytes)
    (hv : fits ty v = true) (hd : v.isDefault = true) (h1 : s.heap.size < e.platform.maxCells) (h2 : s.slotsUsed + len ≤ e.platform.maxSlots) {Q : Addr → Pre} (hq : Q s.heap.size d acts (s.pushCell (arrV cA len fun _ => v))) : wp (Jvm.newArray cA len v) Q E e d acts s := by
  have h3 : ¬ len > e.platform.maxSlots := by omega
  have h4 : allocActs (Array.replicate len v) s.heap.size acts = acts := by
    have h5 : (Array.replicate len v).all (·.isDefault) = true := by
      rw [Array.all_replicate, hd]
      exact ite_self _
    unfold allocActs
    rw [if_pos h5]
  unfold Jvm.newArray Jvm.arrayFits
  simp only [wp_bind', W.ask, W.ite, if_neg hl, if_neg hh, if_neg h3, wp_pure', W.theClass, hk, Option.some.injEq, exists_eq_left', hkind, W.alloc, Array.size_replicate, h4]
  refine ⟨h1, h2, fun i x hx => ?_, ?_⟩
  · rw [Array.getElem?_replicate] at hx
    split at hx
    · cases hx
      unfold State.fitsSlot State.slotType?
      simp [hk, hkind, hv]
    · cases hx
  · rw [arrV_new]
    exact hq
theorem rr_mu_make {cO cI c0 : ClassId} {kO kI : Class} {n k : Int32} (hO : s.vm.classes[cO]? = some kO) (kindO : kO.kind = .array cI (.array .int)) (hI : s.vm.classes[cI]? = some kI) (kindI : kI.kind = .array c0 .int) (hn : ¬ n < 0) (hk : ¬ k < 0)
    (hb1 : ¬ n.toNatClampNeg > e.platform.arrayLengthLimit) (hb2 : ¬ n.toNatClampNeg * 4 > e.platform.maxHeapBytes) (hb3 : ¬ k.toNatClampNeg > e.platform.arrayLengthLimit) (hb4 : ¬ k.toNatClampNeg * 4 > e.platform.maxHeapBytes)
    (h1 : s.heap.size + (1 + n.toNatClampNeg) ≤ e.platform.maxCells) (h2 : s.slotsUsed + (n.toNatClampNeg + n.toNatClampNeg * k.toNatClampNeg) ≤ e.platform.maxSlots)
    {Q : Addr → Pre} (hq : ∀ d' acts', Q s.heap.size d' acts' (rr_mu s cO cI n.toNatClampNeg k.toNatClampNeg n.toNatClampNeg)) : wp (multianewarray.make cO [n, k]) Q E e d acts s := by
  rw [multianewarray.make]
  simp only [wp_bind', W.ite, if_neg hn, wp_pure', W.theClass, hO, Option.some.injEq, exists_eq_left', kindO]
  refine rr_mu_one hO kindO hb1 hb2 rfl rfl (by omega) (by omega) ?_
  have hnone : ([k].find? (· < 0)) = none := by simp [hk]
  simp only [hnone, ite_self, wp_bind']
  rw [Std.Legacy.Range.forIn_eq_forIn_range']
  have hz : ([:n.toNatClampNeg] : Std.Legacy.Range).size = n.toNatClampNeg := by simp [Std.Legacy.Range.size]
  rw [hz]
  refine wp_forIn_inv (fun left t => ∃ i, i + left.length = n.toNatClampNeg ∧ left = List.range' i left.length ∧ t = rr_mu s cO cI n.toNatClampNeg k.toNatClampNeg i) _ _ ⟨0, by simp, by simp, rfl⟩ ?_ ?_
  · rintro x left t d1 acts1 Q1 ⟨i, e1, e2, rfl⟩ go
    rw [List.length_cons] at e1
    rw [List.length_cons, List.range'_succ] at e2
    obtain ⟨rfl, e3⟩ := List.cons.inj e2
    obtain ⟨a1, a2, a3, a4⟩ := rr_mu_all s cO cI n.toNatClampNeg k.toNatClampNeg x
    have hm : x * k.toNatClampNeg + k.toNatClampNeg ≤ n.toNatClampNeg * k.toNatClampNeg := by
      rw [← Nat.succ_mul]
      exact Nat.mul_le_mul_right _ (by omega)
    have hc := a4 s.heap.size (by omega)
    rw [if_neg (Nat.lt_irrefl _), if_pos rfl] at hc
    rw [multianewarray.make]
    simp only [wp_bind', W.ite, if_neg hk, wp_pure', W.theClass, a2, hI, Option.some.injEq, exists_eq_left', kindI]
    refine rr_mu_one (by rw [a2]; exact hI) kindI hb3 hb4 rfl rfl (by omega) (by omega) ?_
    have hlt : s.heap.size < (rr_mu s cO cI n.toNatClampNeg k.toNatClampNeg x).heap.size := by rw [a1]; omega
    simp only [wp_bind', W.writeLoc, wp_pure']
    refine ⟨_, by rw [State.heap_pushCell_of_lt _ _ hlt]; exact hc, by simp [arrV], by rw [arrV_size]; omega, ?_, go _ _ _ ⟨x + 1, by omega, e3, ?_⟩⟩
    · show State.fitsSlot _ cO .none x _ = true
      unfold State.fitsSlot State.slotType?
      have hO2 : ((rr_mu s cO cI n.toNatClampNeg k.toNatClampNeg x).pushCell (arrV cI k.toNatClampNeg fun _ => defaultValue .int)).vm.classes[cO]? = some kO := by
        show (rr_mu s cO cI n.toNatClampNeg k.toNatClampNeg x).vm.classes[cO]? = _
        rw [a2]
        exact hO
      rw [hO2]
      simp [kindO, fits]
    · rw [a1, rr_mf_step]
      rfl
  · rintro t d1 acts1 ⟨i, e1, -, rfl⟩
    rw [List.length_nil, Nat.add_zero] at e1
    subst e1
    simp only [wp_pure']
    exact hq _ _
end RRM2
section RRM3
variable {p : Program} {l : Launch} {e : Env} {R : Room} {s : State} {m : MethodId} {args : Array Value} {below : List Frame} {meth : Method} {c : Code} {H : Heap} {locs : List Loc} {cells slots : Nat} {Q : State → Prop}
theorem rr_mu_W {cc : ByteArray} (hexec : p.tables.exec = Jvm.exec) (hb : c.code = cc) {own : String} {index : Nat} (hown : s.vm.findClass own = some m.cls) (hlink : (Cond.classLink own index "[[I").before args s = true) (hover : (Cond.arrayOver (.array .int)).before args s = true) (harr : (Cond.arrayClass .int).before args s = true)
    {g : JFrame} (hg : g.method = m) (hdg : decode cc g.pc = .ok (.multianewarray index 2, 4)) {n k : Int32} {rest : List Value} (hstack : g.stack = .int k :: .int n :: rest) (hn : ¬ n < 0) (hk : ¬ k < 0) (hb1 : n.toNatClampNeg * 4 ≤ 536870912) (hb2 : k.toNatClampNeg * 4 ≤ 536870912)
    (hgrown : s.heap.size ≤ H.size) (hcells : cells + (1 + n.toNatClampNeg) ≤ R.cells) (hslots : slots + (n.toNatClampNeg + n.toNatClampNeg * k.toNatClampNeg) ≤ R.slots)
    (kk : ∀ (H1 : Heap) (cO cI : ClassId), s.vm.findClass "[[I" = some cO → s.vm.findClass "[I" = some cI → H1.size = H.size + 1 + n.toNatClampNeg → (∀ q : Nat, q < H.size → H1[q]? = H[q]?) → H1[H.size]? = some (arrV cO n.toNatClampNeg fun j => rr_mf H.size n.toNatClampNeg j) → (∀ j : Nat, j < n.toNatClampNeg → H1[H.size + 1 + j]? = some (arrV cI k.toNatClampNeg fun _ => .int 0)) →
      W p l e R s m args below meth c H1 locs (cells + (1 + n.toNatClampNeg)) (slots + (n.toNatClampNeg + n.toNatClampNeg * k.toNatClampNeg)) Q { g with pc := g.pc + 4, stack := .ref H.size :: rest }) : W p l e R s m args below meth c H locs cells slots Q g := by
  intro T hT X
  subst hT; subst hb; subst hg
  obtain ⟨cI, cO, kO, fI, -, hkO, kindO, fO⟩ := arrayOverA_spec hover
  obtain ⟨cI', kI, c0, fI', hkI, kindI⟩ := Cond.arrayClass_spec harr
  cases Option.some.inj (fI'.symm.trans fI)
  obtain ⟨cO', fO', hcl⟩ := Cond.classLink_spec hown hlink e.platform (by rw [X.admits.platform])
  cases Option.some.inj (fO'.symm.trans fO)
  obtain ⟨hg1, hw, -⟩ := State.classEntry (e := e) X.warmed hcl
  generalize T.vm.noted g.method.cls index (.cls cO) = vm1 at hg1 hw
  obtain ⟨kO1, hkO1, eO⟩ := hw.alike.2.2 _ _ hkO
  obtain ⟨kI1, hkI1, eI⟩ := hw.alike.2.2 _ _ hkI
  have kindO1 : _ = Kind.array cI (.array .int) := (congrArg Class.kind eO).trans kindO
  have kindI1 : _ = Kind.array c0 .int := (congrArg Class.kind eI).trans kindI
  have X1 := X.noted hw
  obtain ⟨L, hL, X2⟩ := rr_mu_stand X1 cO cI n.toNatClampNeg k.toNatClampNeg n.toNatClampNeg
  obtain ⟨a1, -, -, a4⟩ := rr_mu_all (T.setVm vm1) cO cI n.toNatClampNeg k.toNatClampNeg n.toNatClampNeg
  have hsz : (T.setVm vm1).heap = T.heap := rfl
  rw [hsz] at a1 a4 hL
  have hdrop : ∀ x ∈ locs ++ L, x.base < s.heap.size → x ∈ locs := fun x hx hlt => by
    rcases List.mem_append.mp hx with h | h
    · exact h
    · have h2 := hL x h
      exact absurd hlt (by rw [h2]; exact Nat.not_lt.mpr hgrown)
  have X3 : Stand p l e R s g.method args below meth c (rr_mu (T.setVm vm1) cO cI n.toNatClampNeg k.toNatClampNeg n.toNatClampNeg) locs (cells + (1 + n.toNatClampNeg)) (slots + (n.toNatClampNeg + n.toNatClampNeg * k.toNatClampNeg)) :=
    { X2 with same := State.sameButNew.weaken (s := s) X2.same hdrop (Nat.le_refl _) (Nat.le_refl _) }
  obtain ⟨t, r1, r2⟩ := kk _ cO cI fO fI a1 (fun q hq => by rw [a4 q (by omega), if_pos hq]) (by rw [a4 _ (by omega), if_neg (Nat.lt_irrefl _), if_pos rfl]) (fun j hj => by rw [a4 _ (by omega), if_neg (by omega), if_neg (by omega)]) _ rfl X3
  refine ⟨t, ?_, r2⟩
  obtain ⟨m1, m2⟩ := X.roomAbove hcells hslots
  have w1 := Launch.admits_arrayLengthLimit X.admits
  have w2 := Launch.admits_maxHeapBytes X.admits
  jvm_step X.here [hexec, hdg]
  simp only [multianewarray.sem, wp_bind', W.resolveClassAt_links (State.method?_setTop g X.here.top) hg1]
  rw [W.popN, if_neg (by decide)]
  refine ⟨g, State.topJava?_setTop' (s := T.setVm vm1) g X.here.top, [.int n, .int k], rest, rfl, hstack, ?_⟩
  simp only [List.mapM_cons, List.mapM_nil, wp_bind', wp_pure']
  refine rr_mu_make hkO1 kindO1 hkI1 kindI1 hn hk (by omega) (by omega) (by omega) (by omega) (by exact m1) (by exact m2) fun d1 acts1 => ?_
  have e1 : ((T.setTop g).setVm vm1).setTop { g with stack := rest } = (T.setVm vm1).setTop { g with stack := rest } := by
    show ((T.setVm vm1).setTop g).setTop _ = _
    rw [State.setTop_setTop]
  rw [e1, rr_mu_setTop]
  simp only [wp_bind', W.mark, W.pushRef, State.topJava?_setTop' _ X2.here.top, Option.some.injEq, exists_eq_left', State.setTop_setTop, State.heap_setTop]
  intro acts2
  simp [jvm, X2.here.top]
  exact r1
end RRM3

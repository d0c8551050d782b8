/-! ===== the law's run, from its entry ===== -/
def R_law : String := "RainPurseLaw"
def rr_KA : List Int32 := [-1, 0, 0, 1, 1, 2, 0]
def rr_BO : List Int32 := [10, 11, 12, 13, 20, 0, 0, 21, 0, 30, 0, 0, 40, 0, 41, 0, 0, 0, 50, 0, 0, 60, 0, 0, 70, 71, 0, 0]
def rr_NS : List Int32 := [0, 1, 6, 36]
def rr_N0 (L : Nat) (k : Nat) : Nat := match k with | 0 => 7 | 1 => 28 | 2 => 4 | _ => L
def rr_f0 (xs : Nat → Int32) (k : Nat) : Nat → Int32 := match k with | 0 => fun j => rr_KA.getD j 0 | 1 => fun j => rr_BO.getD j 0 | 2 => fun j => rr_NS.getD j 0 | _ => xs
def rr_h0 (L : Nat) (xs : Nat → Int32) : rr_H := fun j => if 1000000 ≤ j ∧ j < 1000004 then rr_cI (rr_N0 L (j - 1000000)) (rr_f0 xs (j - 1000000)) else rr_cI 0 (fun _ => 0)
theorem rr_arrs {s : State} {args : Array Value} (hts : ∀ w ∈ rr_WS, w.before args s = true) (hAO : va_AO "RainPurse$Sheet" s) (hAA : (Cond.arrayOver (.array .int)).before args s = true) : ∃ cA : Nat → ClassId, rr_cs cA s := by
  have hA0 := rr_okX
  simp only [Bool.and_eq_true] at hA0
  obtain ⟨c0, k0, m0, a1, a2, a3⟩ := Cond.arrayClass_spec (hts _ (rr_at_mem hA0.1.1.1.1.1.1.1.1))
  obtain ⟨c1, k1, m1, b1, b2, b3⟩ := Cond.arrayClass_spec (hts _ (rr_at_mem hA0.1.1.1.1.1.1.1.2))
  obtain ⟨m2, c2, k2, d1, -, d3, d4, d5⟩ := Cond.arrayOver_spec (va_AO.use (A := args) hAO)
  obtain ⟨m3, c3, k3, e1, -, e3, e4, e5⟩ := arrayOverA_spec hAA
  refine ⟨fun k => match k with | 0 => c0 | 1 => c1 | 2 => c2 | _ => c3, ⟨fun n z => ⟨fun k h => (by cases h), k0, a2, m0, a3⟩, a1⟩, ⟨fun n z => ⟨fun k h => (by cases h), k1, b2, m1, b3⟩, b1⟩, ⟨fun n z => ⟨fun k h => (by cases h), k2, d3, m2, d4⟩, k2, m2, d3, d4, d1, d5⟩, fun n z => ⟨fun k h => (by cases h), k3, e3, m3, e4⟩, e5⟩
theorem rr_known {s : State} {args : Array Value} (hts : ∀ w ∈ rr_WS, w.before args s = true) : ∃ D : va_G, va_K D vwCl [] s := by
  have h : ∀ ci : Nat, ∃ (cC : ClassId) (iS : Nat → Nat), ∀ q : vw_C, vwCl[ci]? = some q → u_Kn s q.1 q.2.1 q.2.2 cC iS := by
    intro ci
    cases hv : vwCl[ci]? with
    | none => exact ⟨0, fun _ => 0, fun q hq => by cases hq⟩
    | some q =>
      obtain ⟨C, T, M⟩ := q
      have hlt : ci < 11 := (List.getElem?_eq_some_iff.mp hv).1
      have h5 := List.all_eq_true.mp rr_okI_all _ (List.mem_range.mpr hlt)
      rw [hv] at h5
      simp only [Bool.and_eq_true, decide_eq_true_eq] at h5
      obtain ⟨cC, iS, hK⟩ := u_known (T := T) (N := M) hts (rr_lays_ok hv) (hts _ (rr_at_mem h5.1.1))
      exact ⟨cC, iS, fun q hq => by cases hq; exact hK⟩
  exact ⟨(fun ci => Classical.choose (h ci), fun ci => Classical.choose (Classical.choose_spec (h ci))), fun ci q hq => Classical.choose_spec (Classical.choose_spec (h ci)) q hq, fun k q hq => by simp at hq⟩
def lw_P (b : Addr) (xs : List Int32) (args : Array Value) (s : State) : Prop := args = #[.ref b] ∧ s.IntsAt b xs ∧ xs.length ≤ 3072 ∧ (Jvm.Cond.and given_1 narrow_1).before args s = true
def lw_Q (_ : Array Value) (s : State) (o : Outcome) (t : State) : Prop := o = .returned (some (.int 1)) ∧ Framed s o t [] 600000 7302250
def lw_Z (below : List Frame) (a : Array Value) (s : State) : State → Prop := fun t => ∃ o, t.status = .running ∧ Ended t below o ∧ lw_Q a s o t
theorem rr_stat {s : State} {b : Addr} (hg : (Jvm.Cond.and given_1 narrow_1).before #[Value.ref b] s = true) {C n : String} {M : Nat} {vs : List Int32} (hM : vs.length = M) (hM2 : M < 2 ^ 31) (hl : (Cond.laysStatic C n "[I").before #[Value.ref b] s = true) (hini : (Cond.initialized C).before #[Value.ref b] s = true)
    (harr : (Cond.arrayOf (.static C n "[I") .int) ∈ flatC (Jvm.Cond.and given_1 narrow_1)) (hlen : (Cond.eq (.length (.static C n "[I")) (.int (Int32.ofNat M))) ∈ flatC (Jvm.Cond.and given_1 narrow_1)) (hel : ∀ j, j < M → (Cond.eq (.elem (.static C n "[I") (.int (Int32.ofNat j))) (.int (vs.getD j 0))) ∈ flatC (Jvm.Cond.and given_1 narrow_1)) :
    ∃ t : Nat, va_Z C n "[I" (.ref t) (fun q => s.heap.size ≤ q) s s.heap ∧ va_T .int t M (fun j => .int (vs.getD j 0)) (fun q => s.heap.size ≤ q) s s.heap := by
  have hs := flat_of_before _ hg
  have hA : ∀ a : Nat, a < s.heap.size → ¬ s.heap.size ≤ a := fun a h => Nat.not_le.mpr h
  obtain ⟨t, h1, h2⟩ := va_Tof (args := #[Value.ref b]) (s := s) (tm := .static C n "[I") (ty := .int) (N := M) (f := fun j => .int (vs.getD j 0)) (A := fun q => s.heap.size ≤ q) hM2 (hs _ harr) (va_eqt (hs _ hlen)) (fun j hj => va_eqt (hs _ (hel j hj))) hA
  exact ⟨t, va_Zof hl hini h1 hA, h2⟩
/-- the law's own end, with 1 on the stack, nothing written that was there before, its room as the claim has it -/
theorem lw_ret {p : Program} {l : Launch} {e : Env} {s : State} {m : MethodId} {below : List Frame} {meth : Method} {c : Code} {b : Nat} (hx : p.tables.exec = Jvm.exec) (hb : c.code = code) (hr : meth.sig.returnType = ret) (hlocks : meth.locks = false) {pc : Nat} {H : Heap} {ls : Array Slot} (hdg : decode code pc = .ok (.ireturn, 1)) : W p l e room_1 s m #[Value.ref b] below meth c H [] 600000 7302250 (lw_Z below #[Value.ref b] s) (F0 m pc ls [.int 1]) := by
  intro T hT X
  obtain ⟨fs, hret, hrun, hended, hW, hframe⟩ := X.leave (v := some (.int 1)) (hlocks := hlocks) (fun h => by rw [hr] at h; cases h)
  have hmeth' : T.vm.method? m = some meth := X.method'
  refine ⟨T.setFrames fs, ?_, .returned (some (.int 1)), hrun, hended, rfl, ⟨_, rfl⟩, hW, hframe⟩
  jvm_step X.here [X.here.top, hx, hb, hdg, hmeth', hr, ret, narrow_b1]
  (try refine ⟨rfl, ?_⟩); (try refine ⟨rfl, ?_⟩)
  first | (intro acts; rw [hret _ acts rfl rfl rfl]) | rw [hret _ _ rfl rfl rfl]
  exact Steps.refl _
/-- what holds at the law's entry: the machine, the code, the tables' words (any of lw_tbl by 'hts w (by decide +kernel)'), the script of L ints xs at the cell b, what the Statement gives of the start (any of its parts by flat_of_before) -/
def lw_At (p : Program) (s : State) (m : MethodId) (meth : Method) (c : Code) (b L : Nat) (xs : Nat → Int32) : Prop :=
  p.tables.exec = Jvm.exec ∧ c.code = code ∧ meth.sig.returnType = ret ∧ c.maxLocals = 4 ∧ s.vm.findClass R_law = some m.cls ∧ (∀ w ∈ lw_tbl, w.before #[Value.ref b] s = true) ∧ va_X b L xs s s.heap ∧ b < s.heap.size ∧ meth.locks = false ∧ (Jvm.Cond.and given_1 narrow_1).before #[Value.ref b] s = true
set_option maxRecDepth 100000 in
theorem rr_okSt : (rr_atN 483 (.laysStatic "RainPurse" "KIND_ABOVE" "[I") && (rr_atN 865 (.laysStatic "RainPurse" "BODIES" "[I")) && (rr_atN 815 (.laysStatic "RainPurse$Forecast" "NODE_STEPS" "[I")) && rr_at 69 (.initialized "RainPurse") && rr_at 82 (.initialized "RainPurse$Forecast")) = true := by decide +kernel
set_option maxRecDepth 100000 in
theorem rr_flKA : (Cond.arrayOf (.static "RainPurse" "KIND_ABOVE" "[I") .int) ∈ flatC (Jvm.Cond.and given_1 narrow_1) ∧ (Cond.eq (.length (.static "RainPurse" "KIND_ABOVE" "[I")) (.int (Int32.ofNat 7))) ∈ flatC (Jvm.Cond.and given_1 narrow_1) ∧ ∀ j, j < 7 → (Cond.eq (.elem (.static "RainPurse" "KIND_ABOVE" "[I") (.int (Int32.ofNat j))) (.int (rr_KA.getD j 0))) ∈ flatC (Jvm.Cond.and given_1 narrow_1) := by decide +kernel
set_option maxRecDepth 100000 in
theorem rr_flBO : (Cond.arrayOf (.static "RainPurse" "BODIES" "[I") .int) ∈ flatC (Jvm.Cond.and given_1 narrow_1) ∧ (Cond.eq (.length (.static "RainPurse" "BODIES" "[I")) (.int (Int32.ofNat 28))) ∈ flatC (Jvm.Cond.and given_1 narrow_1) ∧ ∀ j, j < 28 → (Cond.eq (.elem (.static "RainPurse" "BODIES" "[I") (.int (Int32.ofNat j))) (.int (rr_BO.getD j 0))) ∈ flatC (Jvm.Cond.and given_1 narrow_1) := by decide +kernel
set_option maxRecDepth 100000 in
theorem rr_flNS : (Cond.arrayOf (.static "RainPurse$Forecast" "NODE_STEPS" "[I") .int) ∈ flatC (Jvm.Cond.and given_1 narrow_1) ∧ (Cond.eq (.length (.static "RainPurse$Forecast" "NODE_STEPS" "[I")) (.int (Int32.ofNat 4))) ∈ flatC (Jvm.Cond.and given_1 narrow_1) ∧ ∀ j, j < 4 → (Cond.eq (.elem (.static "RainPurse$Forecast" "NODE_STEPS" "[I") (.int (Int32.ofNat j))) (.int (rr_NS.getD j 0))) ∈ flatC (Jvm.Cond.and given_1 narrow_1) := by decide +kernel
set_option maxHeartbeats 4000000 in
/-- the law's walk out of the core's run -/
theorem rr_start {p : Program} {e : Env} {s : State} {m : MethodId} {below : List Frame} {meth : Method} {c : Code} (l : Launch) {b L : Nat} {xs : Nat → Int32} (hL : L ≤ 3072) (C0 : lw_At p s m meth c b L xs)
    (hrun : ∃ (n : Nat) (r : rr_R), rr_run n 300 (500, 0, [some (.ref 1000003), none, none, none], []) (0, 0, rr_h0 L xs) = some r ∧ r.1 = some (.int 1) ∧ r.2.1 ≤ 600000 ∧ r.2.2.1 ≤ 7302250) :
    W p l e room_1 s m #[Value.ref b] below meth c s.heap [] 0 0 (lw_Z below #[Value.ref b] s) (entryFrame m ([Value.ref b] : List Value).toArray 4) := by
  obtain ⟨hx, hb, hr, hml, hown, hts, hX, hbl, hlocks, hgv⟩ := C0
  obtain ⟨n, r, hrun, hr1, hr2, hr3⟩ := hrun
  have hws : ∀ w ∈ rr_WS, w.before #[Value.ref b] s = true := fun w hw => hts w (List.mem_filter.mp hw).1
  have hA0 := rr_okX
  simp only [Bool.and_eq_true] at hA0
  have hSt := rr_okSt
  simp only [Bool.and_eq_true] at hSt
  have hAO : va_AO "RainPurse$Sheet" s := va_AO.of (hts _ (rr_atN_mem hA0.1.1.1.1.1.2))
  have hAA := hts _ (rr_atN_mem hA0.1.1.1.1.1.1.2)
  obtain ⟨cA, hcs⟩ := rr_arrs hws hAO hAA
  obtain ⟨D, hK⟩ := rr_known hws
  have hKAl : (Cond.laysStatic "RainPurse" "KIND_ABOVE" "[I").before #[Value.ref b] s = true := hts _ (rr_atN_mem hSt.1.1.1.1)
  obtain ⟨t0, z0, y0⟩ := rr_stat hgv (vs := rr_KA) (M := 7) rfl (by decide) hKAl (hws _ (rr_at_mem hSt.1.2)) rr_flKA.1 rr_flKA.2.1 rr_flKA.2.2
  obtain ⟨t1, z1, y1⟩ := rr_stat hgv (vs := rr_BO) (M := 28) rfl (by decide) (hts _ (rr_atN_mem hSt.1.1.1.2)) (hws _ (rr_at_mem hSt.1.2)) rr_flBO.1 rr_flBO.2.1 rr_flBO.2.2
  obtain ⟨t2, z2, y2⟩ := rr_stat hgv (vs := rr_NS) (M := 4) rfl (by decide) (hts _ (rr_atN_mem hSt.1.1.2)) (hws _ (rr_at_mem hSt.2)) rr_flNS.1 rr_flNS.2.1 rr_flNS.2.2
  obtain ⟨ad, had1, had2, had3, had4, had5⟩ : ∃ ad : Nat → Nat, (∀ i, i < 1000000 → ad i = s.heap.size + i) ∧ ad 1000000 = t0 ∧ ad 1000001 = t1 ∧ ad 1000002 = t2 ∧ ad 1000003 = b := by
    refine ⟨fun i => if i < 1000000 then s.heap.size + i else if i = 1000000 then t0 else if i = 1000001 then t1 else if i = 1000002 then t2 else b, fun i hi => if_pos hi, ?_, ?_, ?_, ?_⟩ <;> simp
  have hRK : rr_RK ad (fun q => s.heap.size ≤ q) (rr_N0 L) (rr_f0 xs) s s.heap := by
    refine ⟨fun k hk => ?_, fun k hk => ?_⟩
    · have h3 : k = 0 ∨ k = 1 ∨ k = 2 := by omega
      rcases h3 with rfl | rfl | rfl
      · rw [had2]; exact z0
      · rw [had3]; exact z1
      · rw [had4]; exact z2
    · have h3 : k = 0 ∨ k = 1 ∨ k = 2 ∨ k = 3 := by omega
      rcases h3 with rfl | rfl | rfl | rfl
      · rw [had2]; exact y0
      · rw [had3]; exact y1
      · rw [had4]; exact y2
      · rw [had5]
        obtain ⟨scr, x1, x2, x3, x4, x5⟩ := hX
        exact ⟨scr, x1, x2, x3, by rw [x4]; exact Nat.le_refl _, by rw [x4]; rfl, x5, Nat.not_le.mpr hbl⟩
  have hNW : rr_NW s := by
    refine ⟨fun w hw hn => ?_, hAO, hAA⟩
    have h7 := hts w hw
    cases w <;> first | exact va_Nw.of rfl h7 | (cases hn; done)
  have E : rr_Env D cA ad s.heap.size (rr_N0 L) (rr_f0 xs) 11 s m #[Value.ref b] := ⟨hws, hown, hK, hcs, hNW, hRK, had1⟩
  rw [lg_entry_eq]
  have hLR := rr_LR_ent ad (As := [.ref 1000003]) (n := 4) (by decide)
  have hmap : ([Value.ref 1000003] : List Value).map (rr_v ad) = [Value.ref b] := by simp [rr_v, had5]
  rw [hmap] at hLR
  refine rr_body n 300 _ _ r hrun p l e room_1 s m #[Value.ref b] below meth c s.heap [] 0 0 _ D cA ad s.heap.size (rr_N0 L) (rr_f0 xs) x code maxLocals ret 11 1 true _ rfl hx hb hml (fun h => absurd h (by decide)) E (by decide) (by decide) (by rw [Nat.zero_add]; exact Nat.le_trans (Nat.sub_le _ _) hr2) (by rw [Nat.zero_add]; exact Nat.le_trans (Nat.sub_le _ _) hr3) (by omega) ?_ hLR ⟨rfl, fun i hi => absurd hi (Nat.not_lt_zero _)⟩ va_S.rf ?_
  · intro k hk
    show rr_h0 L xs _ = _
    unfold rr_h0
    rw [if_pos (by omega), Nat.add_sub_cancel_left]
  · intro pc ls' S ins H' locs' hd hret hW' hS'
    rw [hr1] at hret
    have key : ins = .ireturn ∧ S = [.int 1] := by
      unfold rr_ret at hret
      split at hret
      · split at hret
        · split at hret
          · cases hret; exact ⟨rfl, rfl⟩
          · cases hret
        · split at hret
          · cases hret; exact ⟨rfl, rfl⟩
          · cases hret
        · cases hret
      · split at hret
        · split at hret
          · cases hret
          · cases hret
        · cases hret
      · split at hret
        · rename_i hrr; cases hrr
        · cases hret
      · split at hret
        · split at hret
          · cases hret
          · cases hret
        · cases hret
      · cases hret
    obtain ⟨rfl, rfl⟩ := key
    refine va_forget (fun q hq => hS'.2.2 q hq) ?_
    refine W.widen (k := 600000) (n := 7302250) (by omega) (by omega) ?_
    exact lw_ret hx hb hr hlocks hd

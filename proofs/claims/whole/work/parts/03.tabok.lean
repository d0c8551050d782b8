/-! ===== the tables hold: each row's words stand at their places in lw_tbl ===== -/
def rr_at (i : Nat) (w : Cond) : Bool := decide (lw_tbl[i]? = some w) && goodWord w
def rr_WS : List Cond := lw_tbl.filter goodWord
theorem rr_at_mem {i : Nat} {w : Cond} (h : rr_at i w = true) : w ∈ rr_WS := by
  simp only [rr_at, Bool.and_eq_true, decide_eq_true_eq] at h
  exact List.mem_filter.mpr ⟨List.mem_of_getElem? h.1, h.2⟩
def rr_atC (i : Nat) (y : MethodName) (b : ByteArray) (ml : Nat) (rt : Option FieldType) : Bool := match lw_tbl[i]? with
  | some (.code y' b' ml' rt') => decide (y' = y) && decide (b'.data.toList = b.data.toList) && decide (ml' = ml) && decide (rt' = rt)
  | _ => false
theorem rr_atC_mem {i : Nat} {y : MethodName} {b : ByteArray} {ml : Nat} {rt : Option FieldType} (h : rr_atC i y b ml rt = true) : Cond.code y b ml rt ∈ rr_WS := by
  unfold rr_atC at h
  split at h
  · rename_i y' b' ml' rt' hw
    simp only [Bool.and_eq_true, decide_eq_true_eq] at h
    obtain ⟨⟨⟨rfl, h2⟩, rfl⟩, rfl⟩ := h
    have hb : b' = b := by
      cases b' with
      | mk x => cases b with
        | mk z => exact congrArg ByteArray.mk (Array.toList_inj.mp h2)
    subst hb
    exact List.mem_filter.mpr ⟨List.mem_of_getElem? hw, rfl⟩
  · cases h
def rr_okM (q : rr_M × (Nat × Nat × Nat × Nat)) : Bool :=
  match q with
  | ((y, b, ml, rt, o, n, st), (p1, p2, p3, p4)) =>
    rr_atC p1 y b ml rt && rr_at p2 (if st then .static y else .instanceMethod y) && (st || decide (y.name = "<init>") || rr_at p3 (.selects y.cls y y)) && rr_at p4 (.initialized y.cls) &&
    plainName y.cls && decide (y.cls ≠ "java/lang/invoke/MethodHandle") && decide (y.cls ≠ "java/lang/invoke/VarHandle") && decide ((parseMethodDescriptor y.desc).map (fun d => d.parameters.length) = some (if st then n else n - 1)) && decide (rr_cn o = y.cls) && decide (ml ≤ 16) && (st || decide (1 ≤ n)) && (!decide (y.name = "<init>") || decide (rt = none) && !st)
set_option maxRecDepth 100000 in
theorem rr_okM_0 : (rr_ms0.zip rr_pl0).all rr_okM = true := by decide +kernel
set_option maxRecDepth 100000 in
theorem rr_okM_1 : (rr_ms1.zip rr_pl1).all rr_okM = true := by decide +kernel
set_option maxRecDepth 100000 in
theorem rr_okM_2 : (rr_ms2.zip rr_pl2).all rr_okM = true := by decide +kernel
set_option maxRecDepth 100000 in
theorem rr_okM_3 : (rr_ms3.zip rr_pl3).all rr_okM = true := by decide +kernel
set_option maxRecDepth 100000 in
theorem rr_okM_4 : (rr_ms4.zip rr_pl4).all rr_okM = true := by decide +kernel
set_option maxRecDepth 100000 in
theorem rr_okM_5 : (rr_ms5.zip rr_pl5).all rr_okM = true := by decide +kernel
set_option maxRecDepth 100000 in
theorem rr_okM_6 : (rr_ms6.zip rr_pl6).all rr_okM = true := by decide +kernel
set_option maxRecDepth 100000 in
theorem rr_okM_7 : (rr_ms7.zip rr_pl7).all rr_okM = true := by decide +kernel
set_option maxRecDepth 100000 in
theorem rr_okM_8 : (rr_ms8.zip rr_pl8).all rr_okM = true := by decide +kernel
set_option maxRecDepth 100000 in
theorem rr_okM_9 : (rr_ms9.zip rr_pl9).all rr_okM = true := by decide +kernel
set_option maxRecDepth 100000 in
theorem rr_okM_10 : (rr_ms10.zip rr_pl10).all rr_okM = true := by decide +kernel
set_option maxRecDepth 100000 in
theorem rr_okM_11 : (rr_ms11.zip rr_pl11).all rr_okM = true := by decide +kernel
set_option maxRecDepth 100000 in
theorem rr_okM_12 : (rr_ms12.zip rr_pl12).all rr_okM = true := by decide +kernel
set_option maxRecDepth 100000 in
theorem rr_okM_13 : (rr_ms13.zip rr_pl13).all rr_okM = true := by decide +kernel
set_option maxRecDepth 100000 in
theorem rr_okM_14 : (rr_ms14.zip rr_pl14).all rr_okM = true := by decide +kernel
theorem rr_okM_all : rr_all.all rr_okM = true := by
  simp only [rr_all, List.all_append, Bool.and_eq_true]
  exact ⟨rr_okM_0, ⟨rr_okM_1, ⟨rr_okM_2, ⟨rr_okM_3, ⟨rr_okM_4, ⟨rr_okM_5, ⟨rr_okM_6, ⟨rr_okM_7, ⟨rr_okM_8, ⟨rr_okM_9, ⟨rr_okM_10, ⟨rr_okM_11, ⟨rr_okM_12, ⟨rr_okM_13, rr_okM_14⟩⟩⟩⟩⟩⟩⟩⟩⟩⟩⟩⟩⟩⟩

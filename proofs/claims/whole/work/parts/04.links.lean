/-! ===== the link tables hold ===== -/
def rr_atN (i : Nat) (w : Cond) : Bool := decide (lw_tbl[i]? = some w)
theorem rr_atN_mem {i : Nat} {w : Cond} (h : rr_atN i w = true) : w ∈ lw_tbl := by
  simp only [rr_atN, decide_eq_true_eq] at h
  exact List.mem_of_getElem? h
def rr_y (t : Nat) : Option MethodName := match t with
  | 1000 => some Lib.objectInit
  | 1001 => some arraycopyName
  | 1002 => some Lib.Math.max.name
  | 1003 => some Lib.Math.min.name
  | 1004 => some Lib.Math.abs.name
  | 1005 => some Lib.MathLoose.abs_long.x
  | 1006 => some Lib.MathLoose.max_long.x
  | t => (rr_m t).map Prod.fst
def rr_okL (q : Nat × Nat × Nat × Nat × Nat) : Bool := match q with
  | (o, idx, t, nest, p) => match rr_y t with
    | some y => (if nest = 1 then rr_atN p (.methodLinkNest (rr_cn o) idx y "RainPurse") else rr_at p (.methodLink (rr_cn o) idx y))
    | none => false
set_option maxRecDepth 100000 in
theorem rr_okL_all : rr_ML.all rr_okL = true := by decide +kernel
def rr_tyk (k : Nat) (ty : FieldType) : Bool := match k, ty with
  | 0, .int => true
  | 1, .boolean => true
  | 2, .long => true
  | 3, .object _ => true
  | 3, .array _ => true
  | _, _ => false
def rr_okF (q : Nat × Nat × Nat × Nat × Nat × Nat × Nat) : Bool := match q with
  | (o, idx, ci, k, tk, fin, p) => match vwCl[ci]? with
    | some (C, T, N) => decide (k < N) && decide ((T k).1 = C) && rr_at p (.fieldLink (rr_cn o) idx C (T k).2.1 (T k).2.2.1) && decide (rr_cn ci = C) && decide ((T k).2.2.2 = decide (fin = 1)) && (parseFieldDescriptor (T k).2.2.1).any (rr_tyk tk)
    | none => false
set_option maxRecDepth 100000 in
theorem rr_okF_all : rr_FL.all rr_okF = true := by decide +kernel
def rr_st (k : Nat) : String × String := match k with
  | 0 => ("RainPurse", "KIND_ABOVE")
  | 1 => ("RainPurse", "BODIES")
  | _ => ("RainPurse$Forecast", "NODE_STEPS")
def rr_okS (q : Nat × Nat × Nat × Nat × Nat) : Bool := match q with
  | (o, idx, k, nest, p) => (if nest = 1 then rr_atN p (.fieldLinkNest (rr_cn o) idx (rr_st k).1 (rr_st k).2 "[I" "RainPurse") else rr_at p (.fieldLink (rr_cn o) idx (rr_st k).1 (rr_st k).2 "[I")) && decide (k < 3)
set_option maxRecDepth 100000 in
theorem rr_okS_all : rr_SL.all rr_okS = true := by decide +kernel
def rr_okC (q : Nat × Nat × Nat × Nat) : Bool := match q with
  | (o, idx, t, p) => if t = 100 then rr_at p (.classLink (rr_cn o) idx "[[I") else decide (t < 11) && rr_at p (.classLink (rr_cn o) idx (rr_cn t))
set_option maxRecDepth 100000 in
theorem rr_okC_all : rr_CL.all rr_okC = true := by decide +kernel
set_option maxRecDepth 100000 in
theorem rr_okKI_all : rr_KI.all (fun q => rr_at q.2.2.2 (.constant (rr_cn q.1) q.2.1 q.2.2.1)) = true := by decide +kernel
set_option maxRecDepth 100000 in
theorem rr_okKJ_all : rr_KJ.all (fun q => rr_at q.2.2.2 (.constantLong (rr_cn q.1) q.2.1 q.2.2.1)) = true := by decide +kernel
def rr_lays : List (List Nat) := [rr_lay0, rr_lay1, rr_lay2, rr_lay3, rr_lay4, rr_lay5, rr_lay6, rr_lay7, rr_lay8, rr_lay9, rr_lay10]
/-- the classes: each field's word, that it can be made, that it is initialized -/
def rr_okK (q : vw_C × List Nat) : Bool := match q with
  | ((C, T, N), ps) => decide (ps.length = N) && ((u_ws C T N).zip ps).all (fun z => rr_at z.2 z.1)
set_option maxRecDepth 100000 in
theorem rr_okK_all : (vwCl.zip rr_lays).all rr_okK = true := by decide +kernel
def rr_inP (ci : Nat) : Nat := ((rr_IN.find? (fun q => q.1 == ci)).map (fun q => q.2.2)).getD 0
def rr_iniP : List Nat := [82, 77, 75, 71, 76, 78, 70, 73, 74, 69, 79]
set_option maxRecDepth 100000 in
theorem rr_okI_all : (List.range 11).all (fun ci => match vwCl[ci]? with
  | some (C, T, N) => rr_at (rr_inP ci) (.instantiable C N) && (rr_iniP[ci]?).any (fun p => rr_at p (.initialized C)) && decide (rr_cn ci = C)
  | none => false) = true := by decide +kernel
set_option maxRecDepth 100000 in
theorem rr_okX : (rr_at 113 (.arrayClass .int) && rr_at 334 (.arrayClass .long) && rr_atN 115 (.arrayOver (.array .int)) && rr_atN 214 (.arrayOver (.object "RainPurse$Sheet")) && rr_at 515 (.static arraycopyName) && rr_at 516 (.native arraycopyName) && rr_at 80 (.initialized "java/lang/System") && rr_at 72 (.initialized "java/lang/Math") && rr_at 89 (.instanceMethod Lib.objectInit)) = true := by decide +kernel
def rr_tys : List (Nat → FieldType) := [tyX0, tyX1, tyX2, tyX3, tyX4, tyX5, tyX6, tyX7, tyX8, tyX9, tyX10]
set_option maxRecDepth 100000 in
theorem rr_okD : (List.range 11).all (fun ci => match vwCl[ci]?, rr_DF[ci]?, rr_tys[ci]? with
  | some (C, T, N), some fs, some ty => decide (fs.length = N) && (List.range N).all (fun j => decide (defaultValue (ty j) = vp_V fs j))
  | _, _, _ => false) = true := by decide +kernel

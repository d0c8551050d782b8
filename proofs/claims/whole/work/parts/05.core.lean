/-! ===== the core machine: numbered cells, numbered methods, one step as a function ===== -/
/-- a cell: ints, longs, references (kind 0: sheets, 1: rows of ints), an object (class, fields) -/
abbrev rr_C : Type := (Nat × (Nat → Int32)) ⊕ ((Nat × (Nat → Int64)) ⊕ ((Nat × Nat × (Nat → Option Nat)) ⊕ (Nat × List Value)))
abbrev rr_H : Type := Nat → rr_C
abbrev rr_cI (n : Nat) (f : Nat → Int32) : rr_C := .inl (n, f)
abbrev rr_cJ (n : Nat) (f : Nat → Int64) : rr_C := .inr (.inl (n, f))
abbrev rr_cQ (t n : Nat) (f : Nat → Option Nat) : rr_C := .inr (.inr (.inl (t, n, f)))
abbrev rr_cO (ci : Nat) (fs : List Value) : rr_C := .inr (.inr (.inr (ci, fs)))
def rr_up (h : rr_H) (k : Nat) (c : rr_C) : rr_H := fun j => if j = k then c else h j
abbrev rr_L : Type := List (Option Value)
def rr_ld (L : rr_L) (i : Nat) : Option Value := (L[i]?).getD none
/-- a slot whose neighbour above is written: a long there is lost -/
def rr_nk : Option Value → Option Value
  | some (.long _) => none
  | some (.double _) => none
  | l => l
def rr_md : rr_L → Nat → rr_L
  | [], _ => []
  | a :: L, 0 => rr_nk a :: L
  | a :: L, i + 1 => a :: rr_md L i
def rr_kl (L : rr_L) : Nat → rr_L
  | 0 => L
  | j + 1 => rr_md L j
def rr_s1 (L : rr_L) (i : Nat) (v : Value) : rr_L := (rr_kl L i).set i (some v)
def rr_s2 (L : rr_L) (i : Nat) (v : Value) : rr_L := ((rr_kl L i).set i (some v)).set (i + 1) none
def rr_sl (vs : List Value) : rr_L := vs.flatMap fun v => if v.category = 2 then [some v, none] else [some v]
def rr_ent (vs : List Value) (n : Nat) : rr_L := rr_sl vs ++ List.replicate (n - (rr_sl vs).length) none
def rr_vI : Value → Bool
  | .int _ => true
  | _ => false
def rr_vJ : Value → Bool
  | .long _ => true
  | _ => false
def rr_vR : Value → Bool
  | .ref _ => true
  | .null => true
  | _ => false
def rr_c1 (v : Value) : Bool := rr_vI v || rr_vR v
/-- stack to stack -/
def rr_k (len0 len : Nat) (v : Value) (S : List Value) : Option (List Value) := if len = len0 then some (v :: S) else none
def rr_ii (f : Int32 → Int32 → Int32) (len : Nat) : List Value → Option (List Value)
  | .int y :: .int x :: S => if len = 1 then some (.int (f x y) :: S) else none
  | _ => none
def rr_iid (f : Int32 → Int32 → Int32) (len : Nat) : List Value → Option (List Value)
  | .int y :: .int x :: S => if y = 0 then none else if len = 1 then some (.int (f x y) :: S) else none
  | _ => none
def rr_jj (f : Int64 → Int64 → Value) (len : Nat) : List Value → Option (List Value)
  | .long y :: .long x :: S => if len = 1 then some (f x y :: S) else none
  | _ => none
def rr_jjd (f : Int64 → Int64 → Int64) (len : Nat) : List Value → Option (List Value)
  | .long y :: .long x :: S => if y = 0 then none else if len = 1 then some (.long (f x y) :: S) else none
  | _ => none
def rr_ji (f : Int64 → Int32 → Int64) (len : Nat) : List Value → Option (List Value)
  | .int y :: .long x :: S => if len = 1 then some (.long (f x y) :: S) else none
  | _ => none
def rr_i1 (f : Int32 → Value) (len : Nat) : List Value → Option (List Value)
  | .int x :: S => if len = 1 then some (f x :: S) else none
  | _ => none
def rr_j1 (f : Int64 → Value) (len : Nat) : List Value → Option (List Value)
  | .long x :: S => if len = 1 then some (f x :: S) else none
  | _ => none
def rr_op (ins : Instr) (len : Nat) (S : List Value) : Option (List Value) := match ins with
  | .iconst n => rr_k 1 len (.int (Int32.ofInt n)) S
  | .bipush n => rr_k 2 len (.int (Int8.ofInt n).toInt32) S
  | .sipush n => rr_k 3 len (.int (Int16.ofInt n).toInt32) S
  | .lconst n => rr_k 1 len (.long (Int64.ofNat (n : Nat))) S
  | .iadd => rr_ii (fun x y => x + y) len S
  | .isub => rr_ii (fun x y => x - y) len S
  | .imul => rr_ii (fun x y => x * y) len S
  | .iand => rr_ii (fun x y => x &&& y) len S
  | .ior => rr_ii (fun x y => x ||| y) len S
  | .ixor => rr_ii (fun x y => x ^^^ y) len S
  | .ishl => rr_ii (fun x y => x <<< (y &&& 31)) len S
  | .ishr => rr_ii (fun x y => x >>> (y &&& 31)) len S
  | .iushr => rr_ii (fun x y => (x.toUInt32 >>> (y.toUInt32 &&& Int32.toUInt32 31)).toInt32) len S
  | .idiv => rr_iid (fun x y => x / y) len S
  | .irem => rr_iid (fun x y => x - x / y * y) len S
  | .ineg => rr_i1 (fun x => .int (-x)) len S
  | .i2l => rr_i1 (fun x => .long x.toInt64) len S
  | .i2b => rr_i1 (fun x => .int x.toInt8.toInt32) len S
  | .i2s => rr_i1 (fun x => .int x.toInt16.toInt32) len S
  | .l2i => rr_j1 (fun x => .int x.toInt32) len S
  | .lneg => rr_j1 (fun x => .long (-x)) len S
  | .ladd => rr_jj (fun x y => .long (x + y)) len S
  | .lsub => rr_jj (fun x y => .long (x - y)) len S
  | .lmul => rr_jj (fun x y => .long (x * y)) len S
  | .land => rr_jj (fun x y => .long (x &&& y)) len S
  | .lor => rr_jj (fun x y => .long (x ||| y)) len S
  | .lcmp => rr_jj (fun x y => .int (lg_cmp x y)) len S
  | .ldiv => rr_jjd (fun x y => x / y) len S
  | .lrem => rr_jjd (fun x y => x - x / y * y) len S
  | .lshl => rr_ji (fun x y => x <<< (y.toInt64 &&& 63)) len S
  | .lshr => rr_ji (fun x y => x >>> (y.toInt64 &&& 63)) len S
  | .lushr => rr_ji (fun x y => (x.toUInt64 >>> (y.toInt64.toUInt64 &&& Int64.toUInt64 63)).toInt64) len S
  | .dup => match S with
    | v :: S => if len = 1 ∧ rr_c1 v = true then some (v :: v :: S) else none
    | _ => none
  | .dup2 => match S with
    | v :: w :: S => if len = 1 ∧ rr_c1 v = true ∧ rr_c1 w = true then some (v :: w :: v :: w :: S) else none
    | _ => none
  | .pop => match S with
    | v :: S => if len = 1 ∧ rr_c1 v = true then some S else none
    | _ => none
  | _ => none
/-- locals and stack -/
def rr_lo (len0 len i : Nat) (p : Value → Bool) (L : rr_L) (S : List Value) : Option (rr_L × List Value) := match rr_ld L i with
  | some v => if len = len0 ∧ p v = true then some (L, v :: S) else none
  | none => none
def rr_sto (len0 len i : Nat) (p : Value → Bool) (L : rr_L) : List Value → Option (rr_L × List Value)
  | v :: S => if len = len0 ∧ p v = true ∧ i < L.length then some (rr_s1 L i v, S) else none
  | _ => none
def rr_stj (len0 len i : Nat) (L : rr_L) : List Value → Option (rr_L × List Value)
  | v :: S => if len = len0 ∧ rr_vJ v = true ∧ i + 1 < L.length then some (rr_s2 L i v, S) else none
  | _ => none
def rr_lop (ins : Instr) (len : Nat) (L : rr_L) (S : List Value) : Option (rr_L × List Value) := match ins with
  | .iload_n k => rr_lo 1 len k rr_vI L S
  | .iload i => rr_lo 2 len i rr_vI L S
  | .lload_n k => rr_lo 1 len k rr_vJ L S
  | .lload i => rr_lo 2 len i rr_vJ L S
  | .aload_n k => rr_lo 1 len k rr_vR L S
  | .aload i => rr_lo 2 len i rr_vR L S
  | .istore_n k => rr_sto 1 len k rr_vI L S
  | .istore i => rr_sto 2 len i rr_vI L S
  | .astore_n k => rr_sto 1 len k rr_vR L S
  | .astore i => rr_sto 2 len i rr_vR L S
  | .lstore_n k => rr_stj 1 len k L S
  | .lstore i => rr_stj 2 len i L S
  | .iinc i n => match rr_ld L i with
    | some (.int x) => if len = 3 ∧ i < L.length then some (rr_s1 L i (.int (x + Int32.ofInt n)), S) else none
    | _ => none
  | _ => none
def rr_jmp (pc : Nat) (off : Int) : Option Nat := if 0 ≤ (pc : Int) + off then some ((pc : Int) + off).toNat else none
def rr_cnd (c : ClassFile.Cond) (x y : Int32) : Bool := match c with
  | .eq => decide (x = y)
  | .ne => decide (x ≠ y)
  | .lt => decide (x < y)
  | .ge => decide (y ≤ x)
  | .gt => decide (y < x)
  | .le => decide (x ≤ y)
/-- jumps: where to, and the stack -/
def rr_jop (ins : Instr) (len pc : Nat) (S : List Value) : Option (Nat × List Value) := match ins with
  | .goto off => if len = 3 then (rr_jmp pc off).map (fun t => (t, S)) else none
  | .ifCond c off => match S with
    | .int x :: S => if len = 3 then (rr_jmp pc off).map (fun t => (if rr_cnd c x 0 = true then t else pc + 3, S)) else none
    | _ => none
  | .if_icmp c off => match S with
    | .int y :: .int x :: S => if len = 3 then (rr_jmp pc off).map (fun t => (if rr_cnd c x y = true then t else pc + 3, S)) else none
    | _ => none
  | .ifnonnull off => match S with
    | .ref _ :: S => if len = 3 then (rr_jmp pc off).map (fun t => (t, S)) else none
    | .null :: S => if len = 3 then some (pc + 3, S) else none
    | _ => none
  | .tableswitch dflt lo hi offs => match S with
    | .int x :: S => if x.toInt < lo ∨ hi < x.toInt then (rr_jmp pc dflt).map (fun t => (t, S)) else
      (offs[(x.toInt - lo).toNat]?).bind (fun off => (rr_jmp pc off).map (fun t => (t, S)))
    | _ => none
  | .lookupswitch dflt ps => match S with
    | .int x :: S => if (ps.toList.zip (ps.toList.drop 1)).all (fun (a, next) => a.1 < next.1) = true then (rr_jmp pc (Op.lookupswitch.offset ps.toList dflt x.toInt)).map (fun t => (t, S)) else none
    | _ => none
  | _ => none
/-! links -/
def rr_fl (o idx : Nat) : Option (Nat × Nat × Nat × Nat) := (rr_FL.find? (fun q => q.1 == o && q.2.1 == idx)).map (fun q => (q.2.2.1, q.2.2.2.1, q.2.2.2.2.1, q.2.2.2.2.2.1))
def rr_ml (o idx : Nat) : Option (Nat × Nat) := (rr_ML.find? (fun q => q.1 == o && q.2.1 == idx)).map (fun q => (q.2.2.1, q.2.2.2.1))
def rr_sf (o idx : Nat) : Option Nat := (rr_SL.find? (fun q => q.1 == o && q.2.1 == idx)).map (fun q => q.2.2.1)
def rr_cl (o idx : Nat) : Option Nat := (rr_CL.find? (fun q => q.1 == o && q.2.1 == idx)).map (fun q => q.2.2.1)
def rr_ki (o idx : Nat) : Option Int32 := (rr_KI.find? (fun q => q.1 == o && q.2.1 == idx)).map (fun q => q.2.2.1)
def rr_kj (o idx : Nat) : Option Int64 := (rr_KJ.find? (fun q => q.1 == o && q.2.1 == idx)).map (fun q => q.2.2.1)
def rr_in (i : Int32) (n : Nat) : Bool := decide (0 ≤ i) && decide (i.toNatClampNeg < n)
/-- a cell that may be read: our own, or one of the four that nobody writes -/
def rr_rd (sz a : Nat) : Bool := decide (a < sz) || (decide (1000000 ≤ a) && decide (a < 1000004))
def rr_fit (tk : Nat) (v : Value) : Bool := match tk, v with
  | 0, .int _ => true
  | 1, .int x => decide (x = 0) || decide (x = 1)
  | 2, .long _ => true
  | 3, .ref _ => true
  | 3, .null => true
  | _, _ => false
/-- the heap is read -/
def rr_hop (o : Nat) (ins : Instr) (len : Nat) (S : List Value) (sz : Nat) (h : rr_H) : Option (Nat × List Value) := match ins with
  | .getfield idx => match S with
    | .ref a :: S => match rr_fl o idx, h a with
      | some (ci, k, _, _), .inr (.inr (.inr (cj, fs))) => if ci = cj ∧ a < sz ∧ len = 3 then (fs[k]?).map (fun v => (3, v :: S)) else none
      | _, _ => none
    | _ => none
  | .iaload => match S with
    | .int i :: .ref a :: S => match h a with
      | .inl (n, f) => if rr_rd sz a = true ∧ rr_in i n = true ∧ len = 1 then some (1, .int (f i.toNatClampNeg) :: S) else none
      | _ => none
    | _ => none
  | .laload => match S with
    | .int i :: .ref a :: S => match h a with
      | .inr (.inl (n, f)) => if a < sz ∧ rr_in i n = true ∧ len = 1 then some (1, .long (f i.toNatClampNeg) :: S) else none
      | _ => none
    | _ => none
  | .aaload => match S with
    | .int i :: .ref a :: S => match h a with
      | .inr (.inr (.inl (t, n, f))) => if t ≤ 1 ∧ a < sz ∧ rr_in i n = true ∧ len = 1 then some (1, va_rf (f i.toNatClampNeg) :: S) else none
      | _ => none
    | _ => none
  | .arraylength => match S with
    | .ref a :: S => match h a with
      | .inl (n, _) => if rr_rd sz a = true ∧ len = 1 then some (1, .int (Int32.ofNat n) :: S) else none
      | _ => none
    | _ => none
  | .getstatic idx => (rr_sf o idx).bind (fun k => if len = 3 then some (3, .ref (1000000 + k) :: S) else none)
  | .ldc idx => (rr_ki o idx).bind (fun v => if len = 2 then some (2, .int v :: S) else none)
  | .ldc_w idx => (rr_ki o idx).bind (fun v => if len = 3 then some (3, .int v :: S) else none)
  | .ldc2_w idx => (rr_kj o idx).bind (fun v => if len = 3 then some (3, .long v :: S) else none)
  | _ => none
/-- the heap is written -/
def rr_wop (o : Nat) (ini : Bool) (ins : Instr) (len : Nat) (S : List Value) (sz : Nat) (h : rr_H) : Option (Nat × List Value × rr_H) := match ins with
  | .putfield idx => match S with
    | v :: .ref a :: S => match rr_fl o idx, h a with
      | some (ci, k, tk, fin), .inr (.inr (.inr (cj, fs))) => if ci = cj ∧ a < sz ∧ len = 3 ∧ k < fs.length ∧ rr_fit tk v = true ∧ (fin = 1 → ini = true ∧ o = ci) then some (3, S, rr_up h a (rr_cO cj (fs.set k v))) else none
      | _, _ => none
    | _ => none
  | .iastore => match S with
    | .int x :: .int i :: .ref a :: S => match h a with
      | .inl (n, f) => if a < sz ∧ rr_in i n = true ∧ len = 1 then some (1, S, rr_up h a (rr_cI n (upd f i.toNatClampNeg x))) else none
      | _ => none
    | _ => none
  | .lastore => match S with
    | .long x :: .int i :: .ref a :: S => match h a with
      | .inr (.inl (n, f)) => if a < sz ∧ rr_in i n = true ∧ len = 1 then some (1, S, rr_up h a (rr_cJ n (vp_updL f i.toNatClampNeg x))) else none
      | _ => none
    | _ => none
  | .aastore => match S with
    | .ref v :: .int i :: .ref a :: S => match h a, h v with
      | .inr (.inr (.inl (t, n, f))), .inr (.inr (.inr (cj, _))) => if a < sz ∧ v < sz ∧ t = 0 ∧ cj = 5 ∧ rr_in i n = true ∧ len = 1 then some (1, S, rr_up h a (rr_cQ t n (va_up f i.toNatClampNeg (some v)))) else none
      | _, _ => none
    | _ => none
  | _ => none
def rr_mul (h : rr_H) (sz n k : Nat) : rr_H := fun j => if j = sz then rr_cQ 1 n (fun i => if i < n then some (sz + 1 + i) else none) else if sz < j ∧ j < sz + 1 + n then rr_cI k (fun _ => 0) else h j
/-- cells are made: bytes of code gone, stack, new cells, new slots, heap -/
def rr_nop (o : Nat) (ins : Instr) (len : Nat) (S : List Value) (sz : Nat) (h : rr_H) : Option (Nat × List Value × Nat × Nat × rr_H) := match ins with
  | .new idx => (rr_cl o idx).bind (fun ci => (rr_DF[ci]?).bind (fun fs => if len = 3 then some (3, .ref sz :: S, 1, fs.length, rr_up h sz (rr_cO ci fs)) else none))
  | .newarray .int => match S with
    | .int n :: S => if 0 ≤ n ∧ n.toNatClampNeg ≤ 60000000 ∧ len = 2 then some (2, .ref sz :: S, 1, n.toNatClampNeg, rr_up h sz (rr_cI n.toNatClampNeg (fun _ => 0))) else none
    | _ => none
  | .newarray .long => match S with
    | .int n :: S => if 0 ≤ n ∧ n.toNatClampNeg ≤ 60000000 ∧ len = 2 then some (2, .ref sz :: S, 1, n.toNatClampNeg, rr_up h sz (rr_cJ n.toNatClampNeg (fun _ => 0))) else none
    | _ => none
  | .anewarray idx => match S with
    | .int n :: S => if 0 ≤ n ∧ n.toNatClampNeg ≤ 60000000 ∧ len = 3 ∧ rr_cl o idx = some 5 then some (3, .ref sz :: S, 1, n.toNatClampNeg, rr_up h sz (rr_cQ 0 n.toNatClampNeg (fun _ => none))) else none
    | _ => none
  | .multianewarray idx 2 => match S with
    | .int k :: .int n :: S => if 0 ≤ n ∧ 0 ≤ k ∧ n.toNatClampNeg ≤ 1000 ∧ k.toNatClampNeg ≤ 1000 ∧ len = 4 ∧ rr_cl o idx = some 100 then some (4, .ref sz :: S, 1 + n.toNatClampNeg, n.toNatClampNeg + n.toNatClampNeg * k.toNatClampNeg, rr_mul h sz n.toNatClampNeg k.toNatClampNeg) else none
    | _ => none
  | _ => none
/-- the library's calls, as one step -/
def rr_sop (t : Nat) (len : Nat) (S : List Value) (sz : Nat) (h : rr_H) : Option (List Value × rr_H) := match t, S with
  | 1000, .ref a :: S => if a < sz ∧ len = 3 then some (S, h) else none
  | 1001, .int n :: .int dp :: .ref a :: .int sp :: .ref a0 :: S => match h a0, h a with
    | .inl (n0, f), .inl (n1, g) => if a < sz ∧ a0 < sz ∧ 0 ≤ n ∧ 0 ≤ dp ∧ 0 ≤ sp ∧ sp.toNatClampNeg + n.toNatClampNeg ≤ n0 ∧ dp.toNatClampNeg + n.toNatClampNeg ≤ n1 ∧ len = 3 then some (S, rr_up h a (rr_cI n1 (va_cpy f g sp.toNatClampNeg dp.toNatClampNeg n.toNatClampNeg))) else none
    | _, _ => none
  | 1002, .int y :: .int x :: S => if len = 3 then some (.int (if x < y then y else x) :: S, h) else none
  | 1003, .int y :: .int x :: S => if len = 3 then some (.int (if y < x then y else x) :: S, h) else none
  | 1004, .int x :: S => if len = 3 then some (.int (if 0 ≤ x then x else 0 - x) :: S, h) else none
  | 1005, .long x :: S => if len = 3 then some (.long (if 0 < x then x else -x) :: S, h) else none
  | 1006, .long y :: .long x :: S => if len = 3 then some (.long (if y < x then x else y) :: S, h) else none
  | _, _ => none
def rr_cat (S : List Value) : Nat := (S.map fun v => v.category).sum
def rr_isO (h : rr_H) (ci : Nat) : Value → Bool
  | .ref a => match h a with
    | .inr (.inr (.inr (cj, _))) => decide (cj = ci)
    | _ => false
  | _ => false
def rr_own (sz : Nat) : Value → Bool
  | .ref a => decide (a < sz)
  | _ => false
/-- what a call does: .virtual 0, special 1, static 2; the target's link, arguments and rest -/
def rr_cal (kd o idx len : Nat) (S : List Value) (sz : Nat) (h : rr_H) : Option (Nat × List Value × List Value) :=
  (rr_ml o idx).bind (fun tn => (rr_m tn.1).bind (fun q => match q with
    | (y, _, _, _, ci, na, st) =>
      if len = 3 ∧ na ≤ S.length ∧ rr_cat (S.drop na) ≤ 8 ∧ (st = decide (kd = 2)) ∧ (decide (y.name = "<init>") = decide (kd = 1)) ∧ (kd = 0 → tn.2 = 0 ∧ ((S.take na).reverse.head?).any (fun v => rr_own sz v && rr_isO h ci v) = true) ∧ (kd = 1 → ((S.take na).reverse.head?).any (rr_own sz) = true)
      then some (tn.1, (S.take na).reverse, S.drop na) else none))
def rr_ret (rt : Option FieldType) (ins : Instr) (len : Nat) (S : List Value) : Option (Option Value) := match ins with
  | .ireturn => match S, rt with
    | [.int v], some .int => if len = 1 then some (some (.int v)) else none
    | [.int v], some .boolean => if len = 1 ∧ (v = 0 ∨ v = 1) then some (some (.int v)) else none
    | _, _ => none
  | .lreturn => match S, rt with
    | [.long v], some .long => if len = 1 then some (some (.long v)) else none
    | _, _ => none
  | .areturn => match S, rt with
    | [v], some (.object _) => if len = 1 ∧ rr_vR v = true then some (some v) else none
    | _, _ => none
  | .return_ => match S, rt with
    | [], none => if len = 1 then some none else none
    | _, _ => none
  | _ => none
abbrev rr_St : Type := Nat × rr_L × List Value × Nat × Nat × rr_H
abbrev rr_Act : Type := rr_St ⊕ ((Nat × List Value × List Value) ⊕ Option Value)
def rr_act (d o : Nat) (ini : Bool) (rt : Option FieldType) (ins : Instr) (len pc : Nat) (L : rr_L) (S : List Value) (sz us : Nat) (h : rr_H) : Option rr_Act := match ins with
  | .getfield _ | .iaload | .laload | .aaload | .arraylength | .getstatic _ | .ldc _ | .ldc_w _ | .ldc2_w _ => (rr_hop o ins len S sz h).map (fun q => .inl (pc + q.1, L, q.2, sz, us, h))
  | .putfield _ | .iastore | .lastore | .aastore => (rr_wop o ini ins len S sz h).map (fun q => .inl (pc + q.1, L, q.2.1, sz, us, q.2.2))
  | .new _ | .newarray _ | .anewarray _ | .multianewarray _ _ => (rr_nop o ins len S sz h).map (fun q => .inl (pc + q.1, L, q.2.1, sz + q.2.2.1, us + q.2.2.2.1, q.2.2.2.2))
  | .goto _ | .ifCond _ _ | .if_icmp _ _ | .ifnonnull _ | .tableswitch _ _ _ _ | .lookupswitch _ _ => (rr_jop ins len pc S).map (fun q => .inl (q.1, L, q.2, sz, us, h))
  | .iload_n _ | .iload _ | .lload_n _ | .lload _ | .aload_n _ | .aload _ | .istore_n _ | .istore _ | .astore_n _ | .astore _ | .lstore_n _ | .lstore _ | .iinc _ _ => (rr_lop ins len L S).map (fun q => .inl (pc + len, q.1, q.2, sz, us, h))
  | .invokevirtual idx => (rr_cal 0 o idx len S sz h).map (fun q => .inr (.inl q))
  | .invokespecial idx => if rr_ml o idx = some (1000, 0) then (if 0 < d ∧ rr_cat S ≤ 9 then (rr_sop 1000 len S sz h).map (fun q => .inl (pc + 3, L, q.1, sz, us, q.2)) else none) else (rr_cal 1 o idx len S sz h).map (fun q => .inr (.inl q))
  | .invokestatic idx => (rr_ml o idx).bind (fun tn => if 1000 < tn.1 then (if 0 < d ∧ rr_cat S ≤ 16 ∧ tn.2 = 0 then (rr_sop tn.1 len S sz h).map (fun q => .inl (pc + 3, L, q.1, sz, us, q.2)) else none) else (rr_cal 2 o idx len S sz h).map (fun q => .inr (.inl q)))
  | .ireturn | .lreturn | .areturn | .return_ => (rr_ret rt ins len S).map (fun q => .inr (.inr q))
  | _ => (rr_op ins len S).map (fun S' => .inl (pc + len, L, S', sz, us, h))
/-! the law's method is number 500 -/
def rr_mm (k : Nat) : Option rr_M := if k = 500 then some (x, code, maxLocals, ret, 11, 1, true) else rr_m k
abbrev rr_F : Type := Nat × Nat × rr_L × List Value
abbrev rr_G : Type := Nat × Nat × rr_H
abbrev rr_R : Type := Option Value × rr_G
def rr_nx (d : Nat) (F : rr_F) (G : rr_G) : Option rr_Act := (rr_mm F.1).bind (fun q => match q with
  | (y, cc, _, rt, o, _, _) => match decode cc F.2.1 with
    | .ok (ins, len) => rr_act d o (decide (y.name = "<init>")) rt ins len F.2.1 F.2.2.1 F.2.2.2 G.1 G.2.1 G.2.2
    | .error _ => none)
/-- a call's first frame -/
def rr_fr (t : Nat) (As : List Value) : Option rr_F := (rr_m t).bind (fun q => if (rr_sl As).length ≤ q.2.2.1 then some (t, 0, rr_ent As q.2.2.1, []) else none)
def rr_run : Nat → Nat → rr_F → rr_G → Option rr_R
  | 0, _, _, _ => none
  | n + 1, d, F, G => match rr_nx d F G with
    | none => none
    | some (.inl (pc, L, S, sz, us, h)) => rr_run n d (F.1, pc, L, S) (sz, us, h)
    | some (.inr (.inl (t, As, rest))) => match d with
      | 0 => none
      | d' + 1 => (rr_fr t As).bind (fun F' => (rr_run n d' F' G).bind (fun r => rr_run n (d' + 1) (F.1, F.2.1 + 3, F.2.2.1, r.1.toList ++ rest) r.2))
    | some (.inr (.inr v)) => some (v, G)

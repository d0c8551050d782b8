section RX2
variable {d m p : Nat} {y : MethodName} {cc : ByteArray} {nL : Nat} {rt : Option FieldType} {o na : Nat} {st : Bool} {ins : Instr} {len : Nat} {L L' : rr_L} {S S' : List Value} {sz us : Nat} {h : rr_H}
theorem rx_ldc {idx : Nat} {v : Int32} (hm : rr_mm m = some (y, cc, nL, rt, o, na, st)) (hd : decode cc p = .ok (.ldc idx, 2)) (hl : rr_ki o idx = some v) : rx d m p L S sz us h = rx d m (p + 2) L (.int v :: S) sz us h := by
  rw [rx_act hm hd]
  simp only [rr_act, rr_hop, hl, Option.bind_some]
  rfl
theorem rx_ldcw {idx : Nat} {v : Int32} (hm : rr_mm m = some (y, cc, nL, rt, o, na, st)) (hd : decode cc p = .ok (.ldc_w idx, 3)) (hl : rr_ki o idx = some v) : rx d m p L S sz us h = rx d m (p + 3) L (.int v :: S) sz us h := by
  rw [rx_act hm hd]
  simp only [rr_act, rr_hop, hl, Option.bind_some]
  rfl
theorem rx_ldc2 {idx : Nat} {v : Int64} (hm : rr_mm m = some (y, cc, nL, rt, o, na, st)) (hd : decode cc p = .ok (.ldc2_w idx, 3)) (hl : rr_kj o idx = some v) : rx d m p L S sz us h = rx d m (p + 3) L (.long v :: S) sz us h := by
  rw [rx_act hm hd]
  simp only [rr_act, rr_hop, hl, Option.bind_some]
  rfl
theorem rx_gets {idx k : Nat} (hm : rr_mm m = some (y, cc, nL, rt, o, na, st)) (hd : decode cc p = .ok (.getstatic idx, 3)) (hl : rr_sf o idx = some k) : rx d m p L S sz us h = rx d m (p + 3) L (.ref (1000000 + k) :: S) sz us h := by
  rw [rx_act hm hd]
  simp only [rr_act, rr_hop, hl, Option.bind_some]
  rfl
theorem rr_sw_out {x : Int32} {lo n : Nat} (hn : lo + n < 2 ^ 31) (h : ∀ k, k ≤ n → ¬ x = Int32.ofNat (lo + k)) : x.toInt < (lo : Int) ∨ ((lo + n : Nat) : Int) < x.toInt := by
  by_cases h0 : x.toInt < (lo : Int)
  · exact Or.inl h0
  · by_cases h1 : ((lo + n : Nat) : Int) < x.toInt
    · exact Or.inr h1
    · refine absurd ?_ (h (x.toInt.toNat - lo) (by omega))
      apply Int32.toInt_inj.mp
      have e := nI_toInt (n := lo + (x.toInt.toNat - lo)) (by omega)
      unfold nI at e
      rw [e]
      omega
theorem rx_tabD {x : Int32} {dflt l0 hi : Int} {lo n t : Nat} {offs : Array Int} (hm : rr_mm m = some (y, cc, nL, rt, o, na, st)) (hd : decode cc p = .ok (.tableswitch dflt l0 hi offs, len)) (hlo : l0 = (lo : Int)) (hhi : hi = ((lo + n : Nat) : Int)) (hn : lo + n < 2 ^ 31) (h0 : ∀ k, k ≤ n → ¬ x = Int32.ofNat (lo + k)) (ht : rr_jmp p dflt = some t) : rx d m p L (.int x :: S) sz us h = rx d m t L S sz us h := by
  rw [rx_act hm hd]
  simp only [rr_act, rr_jop]
  rw [if_pos (by rw [hhi, hlo]; exact rr_sw_out hn h0), ht]
  rfl
theorem rx_tabI {dflt l0 hi off : Int} {lo n k t : Nat} {offs : Array Int} (hm : rr_mm m = some (y, cc, nL, rt, o, na, st)) (hd : decode cc p = .ok (.tableswitch dflt l0 hi offs, len)) (hlo : l0 = (lo : Int)) (hhi : hi = ((lo + n : Nat) : Int)) (hk : k ≤ n) (hn : lo + n < 2 ^ 31) (ho : offs[k]? = some off) (ht : rr_jmp p off = some t) : rx d m p L (.int (Int32.ofNat (lo + k)) :: S) sz us h = rx d m t L S sz us h := by
  rw [rx_act hm hd]
  have e : (Int32.ofNat (lo + k)).toInt = ((lo + k : Nat) : Int) := nI_toInt (n := lo + k) (by omega)
  simp only [rr_act, rr_jop, e]
  rw [if_neg (by rw [hhi, hlo]; omega)]
  have e2 : (((lo + k : Nat) : Int) - l0).toNat = k := by rw [hlo]; omega
  rw [e2, ho, Option.bind_some, ht]
  rfl
theorem rx_look {x : Int32} {dflt : Int} {t : Nat} {ps : Array (Int × Int)} (hm : rr_mm m = some (y, cc, nL, rt, o, na, st)) (hd : decode cc p = .ok (.lookupswitch dflt ps, len)) (hp : (ps.toList.zip (ps.toList.drop 1)).all (fun (a, next) => a.1 < next.1) = true) (ht : rr_jmp p (Op.lookupswitch.offset ps.toList dflt x.toInt) = some t) : rx d m p L (.int x :: S) sz us h = rx d m t L S sz us h := by
  rw [rx_act hm hd]
  simp only [rr_act, rr_jop]
  rw [if_pos hp, ht]
  rfl
end RX2
theorem rr_k1 {P : Nat → Prop} (h0 : P 0) (h : ∀ k, k ≤ 0 → P k → True) : ∀ k, k ≤ 0 → P k := fun k hk => by
  have : k = 0 := by omega
  subst this; exact h0
theorem rr_kn {P : Nat → Prop} {n : Nat} (h0 : ∀ k, k ≤ n → P k) (h : P (n + 1)) : ∀ k, k ≤ n + 1 → P k := fun k hk => by
  by_cases e : k = n + 1
  · subst e; exact h
  · exact h0 k (by omega)
theorem rr_kz {P : Nat → Prop} (h : P 0) : ∀ k, k ≤ 0 → P k := fun k hk => by
  have : k = 0 := by omega
  subst this; exact h

/-! ===== one step of the core is one step of the machine: stack, locals, jumps ===== -/
section RR1
variable {p : Program} {l : Launch} {e : Env} {R : Room} {s : State} {m : MethodId} {args : Array Value} {below : List Frame} {meth : Method} {c : Code} {H : Heap} {locs : List Loc} {cells slots : Nat} {Q : State → Prop}
variable {cc : ByteArray} {pc len : Nat} {ls : Array Slot} {ad : Nat → Nat}
theorem rr_sim_op {ins : Instr} {S S' : List Value} (hx : p.tables.exec = Jvm.exec) (hb : c.code = cc) (hd : decode cc pc = .ok (ins, len)) (hs : rr_op ins len S = some S')
    (k : W p l e R s m args below meth c H locs cells slots Q (F0 m (pc + len) ls (S'.map (rr_v ad)))) : W p l e R s m args below meth c H locs cells slots Q (F0 m pc ls (S.map (rr_v ad))) := by
  have c1 : ∀ v : Value, rr_c1 v = true → (rr_v ad v).category = 1 := by
    intro v hv
    rw [rr_v_cat]
    cases v <;> first | rfl | cases hv
  cases ins with
  | iconst n =>
    simp only [rr_op, rr_k] at hs
    split at hs
    · subst len; cases hs; exact lv_iconst hx hb hd rfl k
    · cases hs
  | bipush n =>
    simp only [rr_op, rr_k] at hs
    split at hs
    · subst len; cases hs; exact lv_bipush hx hb hd rfl k
    · cases hs
  | sipush n =>
    simp only [rr_op, rr_k] at hs
    split at hs
    · subst len; cases hs; exact lv_sipush hx hb hd rfl k
    · cases hs
  | lconst n =>
    simp only [rr_op, rr_k] at hs
    split at hs
    · subst len; cases hs; exact lv_lconst hx hb hd rfl k
    · cases hs
  | dup =>
    simp only [rr_op] at hs
    split at hs
    · split at hs
      · rename_i v S0 hc
        obtain ⟨rfl, h1⟩ := hc
        cases hs; exact lv_dup hx hb hd (c1 _ h1) k
      · cases hs
    · cases hs
  | dup2 =>
    simp only [rr_op] at hs
    split at hs
    · split at hs
      · rename_i v w S0 hc
        obtain ⟨rfl, h1, h2⟩ := hc
        cases hs; exact lv_dup2_11 hx hb hd (c1 _ h1) (c1 _ h2) k
      · cases hs
    · cases hs
  | pop =>
    simp only [rr_op] at hs
    split at hs
    · split at hs
      · rename_i v S0 hc
        obtain ⟨rfl, h1⟩ := hc
        cases hs; exact lv_pop hx hb hd (c1 _ h1) k
      · cases hs
    · cases hs
  | iadd | isub | imul | iand | ior | ixor | ishl | ishr =>
    simp only [rr_op] at hs
    unfold rr_ii at hs
    split at hs
    · split at hs
      · subst len; cases hs
        first | exact lv_iadd hx hb hd k | exact lv_isub hx hb hd k | exact lv_imul hx hb hd k | exact lv_iand hx hb hd k | exact lv_ior hx hb hd k | exact lv_ixor hx hb hd k | exact lv_ishl hx hb hd k | exact lv_ishr hx hb hd k
      · cases hs
    · cases hs
  | iushr =>
    simp only [rr_op] at hs
    unfold rr_ii at hs
    split at hs
    · split at hs
      · subst len; cases hs; exact lv_iushr hx hb hd rfl k
      · cases hs
    · cases hs
  | idiv | irem =>
    simp only [rr_op] at hs
    unfold rr_iid at hs
    split at hs
    · split at hs
      · cases hs
      · rename_i h0
        split at hs
        · subst len; cases hs
          first | exact lv_idiv hx hb hd h0 k | exact lv_irem hx hb hd h0 k
        · cases hs
    · cases hs
  | ineg | i2l | i2b | i2s =>
    simp only [rr_op] at hs
    unfold rr_i1 at hs
    split at hs
    · split at hs
      · subst len; cases hs
        first | exact lv_ineg hx hb hd k | exact lv_i2l hx hb hd rfl k | exact lv_i2b hx hb hd rfl k | exact lv_i2s hx hb hd rfl k
      · cases hs
    · cases hs
  | l2i | lneg =>
    simp only [rr_op] at hs
    unfold rr_j1 at hs
    split at hs
    · split at hs
      · subst len; cases hs
        first | exact lv_l2i hx hb hd rfl k | exact lv_lneg hx hb hd k
      · cases hs
    · cases hs
  | ladd | lsub | lmul | land | lor | lcmp =>
    simp only [rr_op] at hs
    unfold rr_jj at hs
    split at hs
    · split at hs
      · subst len; cases hs
        first | exact lv_ladd hx hb hd k | exact lv_lsub hx hb hd k | exact lv_lmul hx hb hd k | exact lv_land hx hb hd k | exact lv_lor hx hb hd k | exact W.lcmp hx hb hd k
      · cases hs
    · cases hs
  | ldiv | lrem =>
    simp only [rr_op] at hs
    unfold rr_jjd at hs
    split at hs
    · split at hs
      · cases hs
      · rename_i h0
        split at hs
        · subst len; cases hs
          first | exact lv_ldiv hx hb hd h0 k | exact lv_lrem hx hb hd h0 k
        · cases hs
    · cases hs
  | lshl | lshr | lushr =>
    simp only [rr_op] at hs
    unfold rr_ji at hs
    split at hs
    · split at hs
      · subst len; cases hs
        first | exact lv_lshl hx hb hd rfl k | exact lv_lshr hx hb hd rfl k | exact lv_lushr hx hb hd rfl k
      · cases hs
    · cases hs
  | _ => cases hs
theorem rr_sim_lop {ins : Instr} {L L' : rr_L} {S S' : List Value} {nL : Nat} (hx : p.tables.exec = Jvm.exec) (hb : c.code = cc) (hd : decode cc pc = .ok (ins, len)) (hL : rr_LR ad L ls nL) (hs : rr_lop ins len L S = some (L', S'))
    (k : ∀ ls', rr_LR ad L' ls' nL → W p l e R s m args below meth c H locs cells slots Q (F0 m (pc + len) ls' (S'.map (rr_v ad)))) : W p l e R s m args below meth c H locs cells slots Q (F0 m pc ls (S.map (rr_v ad))) := by
  have lo : ∀ (len0 i : Nat) (P : Value → Bool), rr_lo len0 len i P L S = some (L', S') → len = len0 ∧ L' = L ∧ ∃ v, P v = true ∧ S' = v :: S ∧ ls[i]? = some (.val (rr_v ad v)) := by
    intro len0 i P h
    unfold rr_lo at h
    split at h
    · rename_i v hv
      split at h
      · rename_i hc
        cases h
        exact ⟨hc.1, rfl, v, hc.2, rfl, hL.2.2.2 _ _ hv⟩
      · cases h
    · cases h
  have st : ∀ (len0 i : Nat) (P : Value → Bool), rr_sto len0 len i P L S = some (L', S') → len = len0 ∧ i < nL ∧ ∃ v, P v = true ∧ S = v :: S' ∧ L' = rr_s1 L i v := by
    intro len0 i P h
    unfold rr_sto at h
    split at h
    · split at h
      · rename_i v S0 hc
        cases h
        exact ⟨hc.1, by rw [← hL.1]; exact hc.2.2, v, hc.2.1, rfl, rfl⟩
      · cases h
    · cases h
  have sj : ∀ (len0 i : Nat), rr_stj len0 len i L S = some (L', S') → len = len0 ∧ i + 1 < nL ∧ ∃ v, rr_vJ v = true ∧ S = v :: S' ∧ L' = rr_s2 L i v := by
    intro len0 i h
    unfold rr_stj at h
    split at h
    · split at h
      · rename_i v S0 hc
        cases h
        exact ⟨hc.1, by rw [← hL.1]; exact hc.2.2, v, hc.2.1, rfl, rfl⟩
      · cases h
    · cases h
  cases ins with
  | iload_n i =>
    obtain ⟨rfl, rfl, v, hv, rfl, hl⟩ := lo _ _ _ hs
    cases v <;> first | (simp [rr_vI, rr_vJ, rr_vR] at hv; done) | exact lv_iload_n hx hb hd rfl hl (k ls hL)
  | iload i =>
    obtain ⟨rfl, rfl, v, hv, rfl, hl⟩ := lo _ _ _ hs
    cases v <;> first | (simp [rr_vI, rr_vJ, rr_vR] at hv; done) | exact lv_iload hx hb hd hl (k ls hL)
  | lload_n i =>
    obtain ⟨rfl, rfl, v, hv, rfl, hl⟩ := lo _ _ _ hs
    cases v <;> first | (simp [rr_vI, rr_vJ, rr_vR] at hv; done) | exact lv_lload_n hx hb hd rfl hl (k ls hL)
  | lload i =>
    obtain ⟨rfl, rfl, v, hv, rfl, hl⟩ := lo _ _ _ hs
    cases v <;> first | (simp [rr_vI, rr_vJ, rr_vR] at hv; done) | exact lv_lload hx hb hd hl (k ls hL)
  | aload_n i =>
    obtain ⟨rfl, rfl, v, hv, rfl, hl⟩ := lo _ _ _ hs
    cases v <;> first | (simp [rr_vI, rr_vJ, rr_vR] at hv; done) | exact lv_aload_n hx hb hd rfl hl (k ls hL) | exact lv_aload_nN hx hb hd rfl hl (k ls hL)
  | aload i =>
    obtain ⟨rfl, rfl, v, hv, rfl, hl⟩ := lo _ _ _ hs
    cases v <;> first | (simp [rr_vI, rr_vJ, rr_vR] at hv; done) | exact lv_aload hx hb hd hl (k ls hL) | exact lv_aloadN hx hb hd hl (k ls hL)
  | istore_n i =>
    obtain ⟨rfl, hn, v, hv, rfl, rfl⟩ := st _ _ _ hs
    cases v <;> first | (simp [rr_vI, rr_vJ, rr_vR] at hv; done) | exact lv_istore_n hx hb hd rfl hL.has hn rfl (fun ls' h => k ls' (rr_LR.s1 hL.1 h))
  | istore i =>
    obtain ⟨rfl, hn, v, hv, rfl, rfl⟩ := st _ _ _ hs
    cases v <;> first | (simp [rr_vI, rr_vJ, rr_vR] at hv; done) | exact lv_istore hx hb hd hL.has hn rfl (fun ls' h => k ls' (rr_LR.s1 hL.1 h))
  | astore_n i =>
    obtain ⟨rfl, hn, v, hv, rfl, rfl⟩ := st _ _ _ hs
    cases v <;> first | (simp [rr_vI, rr_vJ, rr_vR] at hv; done) | exact lv_astore_n hx hb hd rfl hL.has hn rfl (fun ls' h => k ls' (rr_LR.s1 hL.1 h)) | exact lv_astore_nN hx hb hd rfl hL.has hn rfl (fun ls' h => k ls' (rr_LR.s1 hL.1 h))
  | astore i =>
    obtain ⟨rfl, hn, v, hv, rfl, rfl⟩ := st _ _ _ hs
    cases v <;> first | (simp [rr_vI, rr_vJ, rr_vR] at hv; done) | exact lv_astore hx hb hd hL.has hn rfl (fun ls' h => k ls' (rr_LR.s1 hL.1 h)) | exact lv_astoreN hx hb hd hL.has hn rfl (fun ls' h => k ls' (rr_LR.s1 hL.1 h))
  | lstore_n i =>
    obtain ⟨rfl, hn, v, hv, rfl, rfl⟩ := sj _ _ hs
    cases v <;> first | (simp [rr_vI, rr_vJ, rr_vR] at hv; done) | exact lv_lstore_n hx hb hd rfl hL.has hn rfl (fun ls' h => k ls' (rr_LR.s2 hL.1 h))
  | lstore i =>
    obtain ⟨rfl, hn, v, hv, rfl, rfl⟩ := sj _ _ hs
    cases v <;> first | (simp [rr_vI, rr_vJ, rr_vR] at hv; done) | exact lv_lstore hx hb hd hL.has hn rfl (fun ls' h => k ls' (rr_LR.s2 hL.1 h))
  | iinc i n =>
    simp only [rr_lop] at hs
    split at hs
    · rename_i x hv
      split at hs
      · rename_i hc
        obtain ⟨rfl, hn⟩ := hc
        cases hs
        obtain ⟨j, hj⟩ := List.getElem?_of_mem (rr_as_mem (ad := ad) hL.1 hv)
        exact lv_iinc hx hb hd hL.has hj rfl (by rw [← hL.1]; exact hn) rfl (fun ls' h => k ls' (rr_LR.s1 hL.1 h))
      · cases hs
    · cases hs
  | _ => cases hs
theorem rr_jmp_ok {pc t : Nat} {off : Int} (h : rr_jmp pc off = some t) : (pc : Int) + off = (t : Int) := by
  unfold rr_jmp at h
  split at h
  · rename_i h0
    cases h
    omega
  · cases h
theorem rr_sim_jop {ins : Instr} {S S' : List Value} {pc' : Nat} (hx : p.tables.exec = Jvm.exec) (hb : c.code = cc) (hd : decode cc pc = .ok (ins, len)) (hs : rr_jop ins len pc S = some (pc', S'))
    (k : W p l e R s m args below meth c H locs cells slots Q (F0 m pc' ls (S'.map (rr_v ad)))) : W p l e R s m args below meth c H locs cells slots Q (F0 m pc ls (S.map (rr_v ad))) := by
  cases ins with
  | goto off =>
    simp only [rr_jop] at hs
    split at hs
    · subst len
      obtain ⟨t, ht, he⟩ := Option.map_eq_some_iff.mp hs
      cases he
      exact lv_goto hx hb hd (rr_jmp_ok ht) k
    · cases hs
  | ifCond cd off =>
    simp only [rr_jop] at hs
    split at hs
    · split at hs
      · rename_i x S0 hlen
        subst hlen
        obtain ⟨t, ht, he⟩ := Option.map_eq_some_iff.mp hs
        cases he
        have ht' := rr_jmp_ok ht
        cases cd <;> simp only [rr_cnd, decide_eq_true_eq] at k
        · exact lv_if_eq hx hb hd ht' (fun h => by rw [if_pos h] at k; exact k) (fun h => by rw [if_neg h] at k; exact k)
        · exact lv_if_ne hx hb hd ht' (fun h => by rw [if_pos h] at k; exact k) (fun h => by rw [if_neg (fun q => q h)] at k; exact k)
        · exact lv_if_lt hx hb hd ht' (fun h => by rw [if_pos h] at k; exact k) (fun h => by rw [if_neg h] at k; exact k)
        · exact lv_if_ge hx hb hd ht' (fun h => by rw [if_pos h] at k; exact k) (fun h => by rw [if_neg h] at k; exact k)
        · exact lv_if_gt hx hb hd ht' (fun h => by rw [if_pos h] at k; exact k) (fun h => by rw [if_neg h] at k; exact k)
        · exact lv_if_le hx hb hd ht' (fun h => by rw [if_pos h] at k; exact k) (fun h => by rw [if_neg h] at k; exact k)
      · cases hs
    · cases hs
  | if_icmp cd off =>
    simp only [rr_jop] at hs
    split at hs
    · split at hs
      · rename_i y x S0 hlen
        subst hlen
        obtain ⟨t, ht, he⟩ := Option.map_eq_some_iff.mp hs
        cases he
        have ht' := rr_jmp_ok ht
        cases cd <;> simp only [rr_cnd, decide_eq_true_eq] at k
        · exact lv_icmp_eq hx hb hd ht' (fun h => by rw [if_pos h] at k; exact k) (fun h => by rw [if_neg h] at k; exact k)
        · exact lv_icmp_ne hx hb hd ht' (fun h => by rw [if_pos h] at k; exact k) (fun h => by rw [if_neg (fun q => q h)] at k; exact k)
        · exact lv_icmp_lt hx hb hd ht' (fun h => by rw [if_pos h] at k; exact k) (fun h => by rw [if_neg h] at k; exact k)
        · exact lv_icmp_ge hx hb hd ht' (fun h => by rw [if_pos h] at k; exact k) (fun h => by rw [if_neg h] at k; exact k)
        · exact lv_icmp_gt hx hb hd ht' (fun h => by rw [if_pos h] at k; exact k) (fun h => by rw [if_neg h] at k; exact k)
        · exact lv_icmp_le hx hb hd ht' (fun h => by rw [if_pos h] at k; exact k) (fun h => by rw [if_neg h] at k; exact k)
      · cases hs
    · cases hs
  | ifnonnull off =>
    simp only [rr_jop] at hs
    split at hs
    · split at hs
      · subst len
        obtain ⟨t, ht, he⟩ := Option.map_eq_some_iff.mp hs
        cases he
        exact lv_ifnonnull hx hb hd (rr_jmp_ok ht) k
      · cases hs
    · split at hs
      · subst len
        cases hs
        exact lv_ifnonnullN hx hb hd k
      · cases hs
    · cases hs
  | tableswitch dflt lo hi offs =>
    simp only [rr_jop] at hs
    split at hs
    · split at hs
      · rename_i hc
        obtain ⟨t, ht, he⟩ := Option.map_eq_some_iff.mp hs
        cases he
        exact lv_tableOut hx hb hd hc (rr_jmp_ok ht) k
      · rename_i hc
        obtain ⟨off, ho, hs⟩ := Option.bind_eq_some_iff.mp hs
        obtain ⟨t, ht, he⟩ := Option.map_eq_some_iff.mp hs
        cases he
        exact lv_tableIn hx hb hd (fun q => hc (Or.inl q)) (fun q => hc (Or.inr q)) ho (rr_jmp_ok ht) k
    · cases hs
  | lookupswitch dflt ps =>
    simp only [rr_jop] at hs
    split at hs
    · split at hs
      · rename_i hc
        obtain ⟨t, ht, he⟩ := Option.map_eq_some_iff.mp hs
        cases he
        exact lv_lookup hx hb hd hc rfl (rr_jmp_ok ht) k
      · cases hs
    · cases hs
  | _ => cases hs
end RR1

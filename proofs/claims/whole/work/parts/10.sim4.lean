/-! ===== one step of the core: its kinds; the library's calls ===== -/
theorem rr_act_cases {d o len pc sz us : Nat} {ini : Bool} {rt : Option FieldType} {ins : Instr} {L : rr_L} {S : List Value} {h : rr_H} {a : rr_Act} (hs : rr_act d o ini rt ins len pc L S sz us h = some a) :
    (∃ S', rr_op ins len S = some S' ∧ a = .inl (pc + len, L, S', sz, us, h)) ∨
    (∃ q, rr_lop ins len L S = some q ∧ a = .inl (pc + len, q.1, q.2, sz, us, h)) ∨
    (∃ q, rr_jop ins len pc S = some q ∧ a = .inl (q.1, L, q.2, sz, us, h)) ∨
    (∃ q, rr_hop o ins len S sz h = some q ∧ a = .inl (pc + q.1, L, q.2, sz, us, h)) ∨
    (∃ q, rr_wop o ini ins len S sz h = some q ∧ a = .inl (pc + q.1, L, q.2.1, sz, us, q.2.2)) ∨
    (∃ q, rr_nop o ins len S sz h = some q ∧ a = .inl (pc + q.1, L, q.2.1, sz + q.2.2.1, us + q.2.2.2.1, q.2.2.2.2)) ∨
    (∃ idx q, ins = .invokespecial idx ∧ rr_ml o idx = some (1000, 0) ∧ 0 < d ∧ rr_cat S ≤ 9 ∧ rr_sop 1000 len S sz h = some q ∧ a = .inl (pc + 3, L, q.1, sz, us, q.2)) ∨
    (∃ idx t q, ins = .invokestatic idx ∧ rr_ml o idx = some (t, 0) ∧ 1000 < t ∧ 0 < d ∧ rr_cat S ≤ 16 ∧ rr_sop t len S sz h = some q ∧ a = .inl (pc + 3, L, q.1, sz, us, q.2)) ∨
    (∃ idx q, ins = .invokevirtual idx ∧ rr_cal 0 o idx len S sz h = some q ∧ a = .inr (.inl q)) ∨
    (∃ idx q, ins = .invokespecial idx ∧ rr_cal 1 o idx len S sz h = some q ∧ a = .inr (.inl q)) ∨
    (∃ idx q, ins = .invokestatic idx ∧ rr_cal 2 o idx len S sz h = some q ∧ a = .inr (.inl q)) ∨
    (∃ v, rr_ret rt ins len S = some v ∧ a = .inr (.inr v)) := by
  have mp : ∀ {α : Type} {x : Option α} {g : α → rr_Act}, x.map g = some a → ∃ q, x = some q ∧ a = g q := by
    intro α x g hx
    obtain ⟨q, h1, h2⟩ := Option.map_eq_some_iff.mp hx
    exact ⟨q, h1, h2.symm⟩
  cases ins with
  | invokevirtual idx =>
    obtain ⟨q, h1, h2⟩ := mp hs
    exact Or.inr (Or.inr (Or.inr (Or.inr (Or.inr (Or.inr (Or.inr (Or.inr (Or.inl ⟨idx, q, rfl, h1, h2⟩))))))))
  | invokespecial idx =>
    simp only [rr_act] at hs
    split at hs
    · rename_i h0
      split at hs
      · rename_i hc
        obtain ⟨q, h1, h2⟩ := mp hs
        exact Or.inr (Or.inr (Or.inr (Or.inr (Or.inr (Or.inr (Or.inl ⟨idx, q, rfl, h0, hc.1, hc.2, h1, h2⟩))))))
      · cases hs
    · obtain ⟨q, h1, h2⟩ := mp hs
      exact Or.inr (Or.inr (Or.inr (Or.inr (Or.inr (Or.inr (Or.inr (Or.inr (Or.inr (Or.inl ⟨idx, q, rfl, h1, h2⟩)))))))))
  | invokestatic idx =>
    simp only [rr_act] at hs
    obtain ⟨tn, ht, hs2⟩ := Option.bind_eq_some_iff.mp hs
    split at hs2
    · rename_i h0
      split at hs2
      · rename_i hc
        obtain ⟨q, h1, h2⟩ := mp hs2
        obtain ⟨t, n⟩ := tn
        have hn : n = 0 := hc.2.2
        subst hn
        exact Or.inr (Or.inr (Or.inr (Or.inr (Or.inr (Or.inr (Or.inr (Or.inl ⟨idx, t, q, rfl, ht, h0, hc.1, hc.2.1, h1, h2⟩)))))))
      · cases hs2
    · obtain ⟨q, h1, h2⟩ := mp hs2
      exact Or.inr (Or.inr (Or.inr (Or.inr (Or.inr (Or.inr (Or.inr (Or.inr (Or.inr (Or.inr (Or.inl ⟨idx, q, rfl, h1, h2⟩))))))))))
  | ireturn | lreturn | areturn | return_ =>
    exact Or.inr (Or.inr (Or.inr (Or.inr (Or.inr (Or.inr (Or.inr (Or.inr (Or.inr (Or.inr (Or.inr (mp hs)))))))))))
  | getfield | iaload | laload | aaload | arraylength | getstatic | ldc | ldc_w | ldc2_w =>
    exact Or.inr (Or.inr (Or.inr (Or.inl (mp hs))))
  | putfield | iastore | lastore | aastore =>
    exact Or.inr (Or.inr (Or.inr (Or.inr (Or.inl (mp hs)))))
  | new | newarray | anewarray | multianewarray =>
    exact Or.inr (Or.inr (Or.inr (Or.inr (Or.inr (Or.inl (mp hs))))))
  | goto | ifCond | if_icmp | ifnonnull | tableswitch | lookupswitch =>
    exact Or.inr (Or.inr (Or.inl (mp hs)))
  | iload_n | iload | lload_n | lload | aload_n | aload | istore_n | istore | astore_n | astore | lstore_n | lstore | iinc =>
    exact Or.inr (Or.inl (mp hs))
  | _ => exact Or.inl (mp hs)
set_option maxRecDepth 100000 in
theorem rr_okMth : (rr_atC 105 Lib.Math.max.name Lib.Math.max.code 2 (some .int) && rr_at 104 (.static Lib.Math.max.name) && rr_atC 434 Lib.Math.min.name Lib.Math.min.code 2 (some .int) && rr_at 433 (.static Lib.Math.min.name) && rr_atC 628 Lib.Math.abs.name Lib.Math.abs.code 1 (some .int) && rr_at 627 (.static Lib.Math.abs.name) && rr_atC 706 Lib.MathLoose.abs_long.x Lib.MathLoose.abs_long.code 2 (some .long) && rr_at 705 (.static Lib.MathLoose.abs_long.x) && rr_atC 712 Lib.MathLoose.max_long.x Lib.MathLoose.max_long.code 4 (some .long) && rr_at 711 (.static Lib.MathLoose.max_long.x) && rr_atC 90 Lib.objectInit ⟨#[0xb1]⟩ 1 none) = true := by decide +kernel
theorem rr_ml_ok {o idx t nest : Nat} (h : rr_ml o idx = some (t, nest)) : ∃ y, rr_y t = some y ∧ (nest = 1 → Cond.methodLinkNest (rr_cn o) idx y "RainPurse" ∈ lw_tbl) ∧ (¬ nest = 1 → Cond.methodLink (rr_cn o) idx y ∈ rr_WS) := by
  obtain ⟨⟨o', idx', t', nest', p'⟩, h1, h2, h3⟩ := rr_find h
  cases h3
  simp only [Bool.and_eq_true, beq_iff_eq] at h2
  obtain ⟨rfl, rfl⟩ := h2
  have h4 := List.all_eq_true.mp rr_okL_all _ h1
  simp only [rr_okL] at h4
  cases hy : rr_y t' with
  | none => rw [hy] at h4; cases h4
  | some y =>
    rw [hy] at h4
    simp only at h4
    refine ⟨y, rfl, fun hn => ?_, fun hn => ?_⟩
    · rw [if_pos hn] at h4
      exact rr_atN_mem h4
    · rw [if_neg hn] at h4
      exact rr_at_mem h4
theorem rr_cat_cons (v : Value) (S : List Value) : rr_cat (v :: S) = v.category + rr_cat S := by simp [rr_cat]
theorem rr_cat_map (ad : Nat → Nat) (S : List Value) : ((S.map (rr_v ad)).map fun v => v.category).sum = rr_cat S := by
  unfold rr_cat
  rw [List.map_map]
  refine congrArg List.sum (List.map_congr_left fun v _ => rr_v_cat ad v)
section RR4
variable {p : Program} {l : Launch} {e : Env} {R : Room} {s : State} {m : MethodId} {args : Array Value} {below : List Frame} {meth : Method} {c : Code} {H : Heap} {locs : List Loc} {cells slots : Nat} {Q : State → Prop}
variable {cc : ByteArray} {pc len : Nat} {ls : Array Slot} {ad : Nat → Nat} {D : va_G} {cA : Nat → ClassId} {base sz o : Nat} {h : rr_H} {N : Nat → Nat} {f : Nat → Nat → Int32}
theorem rr_sim_ini {S S' : List Value} {h' : rr_H} {idx : Nat} (E : rr_Env D cA ad base N f o s m args) (hx : p.tables.exec = Jvm.exec) (hb : c.code = cc) (hml : ls.size = c.maxLocals) (hd : decode cc pc = .ok (.invokespecial idx, len)) (hl : rr_ml o idx = some (1000, 0)) (hR1 : 1 ≤ R.frames) (hR2 : 100 ≤ R.locals) (hcat : rr_cat S ≤ 9) (hs : rr_sop 1000 len S sz h = some (S', h'))
    (k : h' = h → W p l e R s m args below meth c H locs cells slots Q (F0 m (pc + 3) ls (S'.map (rr_v ad)))) : W p l e R s m args below meth c H locs cells slots Q (F0 m pc ls (S.map (rr_v ad))) := by
  obtain ⟨y, hy, -, hw⟩ := rr_ml_ok hl
  cases hy
  have hA0 := rr_okX
  have hM := rr_okMth
  simp only [Bool.and_eq_true] at hA0 hM
  unfold rr_sop at hs
  split at hs <;> rename_i h10 <;> first | (exact absurd h10 (by decide)) | skip
  · split at hs
    · rename_i a S0 hc
      obtain ⟨ha, rfl⟩ := hc
      cases hs
      have hc2 := rr_cat_map ad S'
      rw [rr_cat_cons] at hcat
      refine W.objInit hx hb E.2.1 (E.1 _ (hw (by decide))) (E.1 _ (rr_at_mem hA0.2)) (E.1 _ (rr_atC_mem hM.2)) rfl hml rfl hd hR1 ?_ (k rfl)
      show 2 * 0 + _ + 12 ≤ _
      rw [hc2]
      omega
    · cases hs
  · cases hs
theorem rr_sim_sop {S S' : List Value} {h' : rr_H} {idx t : Nat} (E : rr_Env D cA ad base N f o s m args) (hx : p.tables.exec = Jvm.exec) (hb : c.code = cc) (hml : c.maxLocals = ls.size) (hd : decode cc pc = .ok (.invokestatic idx, len)) (hW : rr_W D cA ad base sz h H) (hS : va_S (fun q => base ≤ q) s.heap H locs) (hsz : sz ≤ 1000000) (ht : 1000 < t) (hl : rr_ml o idx = some (t, 0)) (hR1 : 1 ≤ R.frames) (hR2 : 100 ≤ R.locals) (hcat : rr_cat S ≤ 16) (hc1 : cells ≤ R.cells) (hc2 : slots ≤ R.slots) (hs : rr_sop t len S sz h = some (S', h'))
    (k : ∀ (H1 : Heap) (locs1 : List Loc), rr_W D cA ad base sz h' H1 → va_S (fun q => base ≤ q) s.heap H1 locs1 → W p l e R s m args below meth c H1 locs1 cells slots Q (F0 m (pc + 3) ls (S'.map (rr_v ad)))) : W p l e R s m args below meth c H locs cells slots Q (F0 m pc ls (S.map (rr_v ad))) := by
  have adi : ∀ a, a < sz → ad a = base + a := fun a ha => E.2.2.2.2.2.2 a (by omega)
  obtain ⟨y, hy, -, hw⟩ := rr_ml_ok hl
  have hA0 := rr_okX
  have hM := rr_okMth
  simp only [Bool.and_eq_true] at hA0 hM
  obtain ⟨⟨⟨⟨⟨⟨⟨⟨⟨⟨m1, m2⟩, m3⟩, m4⟩, m5⟩, m6⟩, m7⟩, m8⟩, m9⟩, m10⟩, m11⟩ := hM
  have hmi := E.1 _ (rr_at_mem hA0.1.2)
  unfold rr_sop at hs
  split at hs
  · omega
  · split at hs
    · split at hs
      · rename_i n dp a sp a0 S0 _ _ n0 f0 n1 g0 hh0 hh1 hc
        obtain ⟨ha, ha0, j1, j2, j3, j4, j5, rfl⟩ := hc
        cases hs
        cases hy
        have i0 : ∀ x : Int32, 0 ≤ x → ¬ x < 0 := fun x hx => Int32.not_lt.mpr hx
        have hA := hW.2 a ha
        rw [hh1] at hA
        have hB := hW.2 a0 ha0
        rw [hh0] at hB
        simp only [rr_cat_cons] at hcat
        have nn : ∀ z : Int32, ¬ z < 0 → z.toInt = (z.toNatClampNeg : Int) := by
          intro z hz
          have hz0 : (0 : Int) ≤ z.toInt := by
            have := Int32.not_lt.mp hz
            simpa using Int32.le_iff_toInt_le.mp this
          show z.toInt = ((z.toInt.toNat : Nat) : Int)
          omega
        intro T hT X
        obtain ⟨-, k0, hk0, cm0, hkk0⟩ := E.2.2.2.1.1.1 n0 (fun j => .int (f0 j))
        obtain ⟨-, k1, hk1, cm1, hkk1⟩ := E.2.2.2.1.1.1 n1 (fun j => .int (g0 j))
        obtain ⟨vm', X', step⟩ := X.arraycopy hx E.2.1 (E.1 _ (hw (by decide))) (E.1 _ (rr_at_mem hA0.1.1.1.2)) (E.1 _ (rr_at_mem hA0.1.1.1.1.2)) (E.1 _ (rr_at_mem hA0.1.1.2)) (src := ad a0) (dst := ad a) (cs := arrV (cA 0) n0 (fun j => .int (f0 j))) (cd := arrV (cA 0) n1 (fun j => .int (g0 j))) (srcPos := sp) (destPos := dp) (n := n) (by rw [hT, adi a0 ha0]; exact hB) (by rw [hT, adi a ha]; exact hA)
          (fun _ h => by cases h) (fun _ h => by cases h) (fun h => by cases h) (fun h => by cases h) hk0 hk1 hkk0 hkk1 (by simp [refKind]) (i0 _ j3) (i0 _ j2) (i0 _ j1)
          (by rw [nn sp (i0 _ j3), nn n (i0 _ j1)]; show ¬ _ > ((arrV (cA 0) n0 (fun j => .int (f0 j))).slots.size : Int); rw [arrV_size]; omega)
          (by rw [nn dp (i0 _ j2), nn n (i0 _ j1)]; show ¬ _ > ((arrV (cA 0) n1 (fun j => .int (g0 j))).slots.size : Int); rw [arrV_size]; omega)
          (fun vm₁ _ i hi => by
            have e : (arrV (cA 0) n0 (fun j => .int (f0 j))).slots.getD (sp.toNatClampNeg + i) .null = .int (f0 (sp.toNatClampNeg + i)) := by
              rw [Array.getD_eq_getD_getElem?, arrV_read _ _ (by omega)]
              rfl
            refine ⟨?_, ?_⟩
            · rw [e]
              rfl
            · rw [e]
              exact trivial)
          (g := F0 m pc ls ((Value.int n :: Value.int dp :: Value.ref a :: Value.int sp :: Value.ref a0 :: S').map (rr_v ad))) rfl (by rw [hml]) (rest := S'.map (rr_v ad)) rfl (by rw [hb]; exact hd) hR1 (by
            show 2 * 0 + _ + (5 + 2 + 11) ≤ _
            rw [rr_cat_map]
            have : rr_cat S' ≤ 16 := by omega
            omega)
        have e1 : copied (arrV (cA 0) n0 (fun j => .int (f0 j))) (arrV (cA 0) n1 (fun j => .int (g0 j))) sp dp n = arrV (cA 0) n1 (fun j => .int (va_cpy f0 g0 sp.toNatClampNeg dp.toNatClampNeg n.toNatClampNeg j)) := va_copied (fun z => .int z) (cA 0) (cA 0) f0 g0 j4
        rw [e1] at X' step
        have hlt : base + a < H.size := by rw [hW.1]; exact Nat.add_lt_add_left ha base
        have hheap : ((T.setVm vm').setCell (ad a) (arrV (cA 0) n1 (fun j => .int (va_cpy f0 g0 sp.toNatClampNeg dp.toNatClampNeg n.toNatClampNeg j)))).heap = H.setIfInBounds (base + a) (arrV (cA 0) n1 (fun j => .int (va_cpy f0 g0 sp.toNatClampNeg dp.toNatClampNeg n.toNatClampNeg j))) := by rw [← hT, adi a ha]; rfl
        have oq : ∀ q : Nat, q ≠ base + a → (H.setIfInBounds (base + a) (arrV (cA 0) n1 (fun j => .int (va_cpy f0 g0 sp.toNatClampNeg dp.toNatClampNeg n.toNatClampNeg j))))[q]? = H[q]? := fun q hq => by simp [Array.getElem?_setIfInBounds, Ne.symm hq]
        obtain ⟨t2, a1, b1⟩ := k _ _ (hW.up (c := rr_cI n1 (va_cpy f0 g0 sp.toNatClampNeg dp.toNatClampNeg n.toNatClampNeg)) (by simp) (show (H.setIfInBounds (base + a) _)[base + a]? = some _ by simp [Array.getElem?_setIfInBounds, hlt]) oq) ⟨by simp; exact hS.1, fun q g1 g2 => by
            rw [oq q (fun e => g2 (by rw [e]; exact Nat.le_add_right _ _))]
            exact hS.2.1 q g1 g2, fun q hq => by
            rcases List.mem_append.mp hq with h | h
            · exact hS.2.2 q h
            · obtain ⟨z, -, hz⟩ := List.mem_map.mp h
              rw [← hz]
              show base ≤ ad a
              rw [adi a ha]
              exact Nat.le_add_right _ _⟩ _ hheap X'
        exact ⟨t2, step t2 a1, b1⟩
      · cases hs
    · cases hs
  · split at hs
    · subst len
      cases hs
      cases hy
      simp only [rr_cat_cons] at hcat
      rename_i y0 x0 S0
      have hk := k H locs hW hS
      exact va_mmax hx hb hml E.2.1 (E.1 _ (hw (by decide))) (E.1 _ (rr_at_mem m2)) hmi (E.1 _ (rr_atC_mem m1)) hR1 (by rw [rr_cat_map]; omega) hc1 hc2 hd hk
    · cases hs
  · split at hs
    · subst len
      cases hs
      cases hy
      simp only [rr_cat_cons] at hcat
      have hk := k H locs hW hS
      exact va_mmin hx hb hml E.2.1 (E.1 _ (hw (by decide))) (E.1 _ (rr_at_mem m4)) hmi (E.1 _ (rr_atC_mem m3)) hR1 (by rw [rr_cat_map]; omega) hc1 hc2 hd hk
    · cases hs
  · split at hs
    · subst len
      cases hs
      cases hy
      simp only [rr_cat_cons] at hcat
      have hk := k H locs hW hS
      exact va_mabs hx hb hml E.2.1 (E.1 _ (hw (by decide))) (E.1 _ (rr_at_mem m6)) hmi (E.1 _ (rr_atC_mem m5)) hR1 (by rw [rr_cat_map]; omega) hc1 hc2 hd hk
    · cases hs
  · split at hs
    · subst len
      cases hs
      cases hy
      simp only [rr_cat_cons] at hcat
      have hk := k H locs hW hS
      exact va_mabs_long hx hb hml E.2.1 (E.1 _ (hw (by decide))) (E.1 _ (rr_at_mem m8)) hmi (E.1 _ (rr_atC_mem m7)) hR1 (by rw [rr_cat_map]; omega) hc1 hc2 hd hk
    · cases hs
  · split at hs
    · subst len
      cases hs
      cases hy
      simp only [rr_cat_cons] at hcat
      have hk := k H locs hW hS
      exact va_mmax_long hx hb hml E.2.1 (E.1 _ (hw (by decide))) (E.1 _ (rr_at_mem m10)) hmi (E.1 _ (rr_atC_mem m9)) hR1 (by rw [rr_cat_map]; omega) hc1 hc2 hd hk
    · cases hs
  · cases hs
end RR4

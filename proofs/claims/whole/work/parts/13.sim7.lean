/-! ===== calls; the run by induction on its steps ===== -/
theorem rr_cal_inv {kd o idx len sz : Nat} {S As rest : List Value} {h : rr_H} {t : Nat} (hs : rr_cal kd o idx len S sz h = some (t, As, rest)) :
    ∃ (y : MethodName) (cc : ByteArray) (nL : Nat) (rt : Option FieldType) (ci na : Nat) (st : Bool) (nest : Nat), rr_ml o idx = some (t, nest) ∧ rr_m t = some (y, cc, nL, rt, ci, na, st) ∧ len = 3 ∧ As.length = na ∧ S = As.reverse ++ rest ∧ rr_cat rest ≤ 8 ∧ st = decide (kd = 2) ∧ (y.name = "<init>" ↔ kd = 1) ∧
      (kd = 0 → nest = 0 ∧ ∃ b As' fs, As = .ref b :: As' ∧ b < sz ∧ h b = rr_cO ci fs) ∧ (kd = 1 → ∃ b As', As = .ref b :: As' ∧ b < sz) := by
  obtain ⟨⟨t', nest⟩, h1, h2⟩ := Option.bind_eq_some_iff.mp hs
  obtain ⟨⟨y, cc, nL, rt, ci, na, st⟩, h3, h4⟩ := Option.bind_eq_some_iff.mp h2
  simp only at h3 h4
  split at h4
  · rename_i hc
    obtain ⟨c1, c2, c3, c4, c5, c6, c7⟩ := hc
    have e := Option.some.inj h4
    simp only [Prod.mk.injEq] at e
    obtain ⟨rfl, rfl, rfl⟩ := e
    refine ⟨y, cc, nL, rt, ci, na, st, nest, h1, h3, c1, by rw [List.length_reverse, List.length_take]; omega, by rw [List.reverse_reverse, List.take_append_drop], c3, c4, by simpa using c5, fun hk => ?_, fun hk => ?_⟩
    · obtain ⟨d1, d2⟩ := c6 hk
      cases hA : (S.take na).reverse with
      | nil => rw [hA] at d2; cases d2
      | cons v As' =>
        rw [hA] at d2
        simp only [List.head?_cons, Option.any_some, Bool.and_eq_true] at d2
        obtain ⟨d3, d4⟩ := d2
        cases v with
        | ref b =>
          simp only [rr_own, decide_eq_true_eq] at d3
          simp only [rr_isO] at d4
          split at d4
          · rename_i cj fs hh
            simp only [decide_eq_true_eq] at d4
            subst d4
            exact ⟨d1, b, As', fs, rfl, d3, hh⟩
          · cases d4
        | _ => cases d3
    · have d2 := c7 hk
      cases hA : (S.take na).reverse with
      | nil => rw [hA] at d2; cases d2
      | cons v As' =>
        rw [hA] at d2
        simp only [List.head?_cons, Option.any_some] at d2
        cases v with
        | ref b =>
          simp only [rr_own, decide_eq_true_eq] at d2
          exact ⟨b, As', rfl, d2⟩
        | _ => cases d2
  · cases h4
theorem rr_good {cc : ByteArray} {y : MethodName} {nL : Nat} {rt : Option FieldType} (hc : Cond.code y cc nL rt ∈ rr_WS) : GoodIn rr_WS (Cond.code y cc nL rt :: rr_WS) := by
  have h : ∀ w ∈ rr_WS, goodWord w = true := fun w hw => (List.mem_filter.mp hw).2
  intro w hw
  rcases List.mem_cons.mp hw with rfl | hw
  · exact ⟨hc, good_of_word (h _ hc)⟩
  · exact ⟨hw, good_of_word (h _ hw)⟩
section RR6
variable {p : Program} {l : Launch} {e : Env} {R : Room} {s : State} {m : MethodId} {args : Array Value} {below : List Frame} {meth : Method} {c : Code} {H : Heap} {locs : List Loc} {cells slots : Nat} {Q : State → Prop}
variable {cc : ByteArray} {pc len nL0 : Nat} {ls : Array Slot} {ad : Nat → Nat} {D : va_G} {cA : Nat → ClassId} {base o : Nat} {N : Nat → Nat} {f : Nat → Nat → Int32}
set_option maxHeartbeats 4000000 in
theorem rr_sim_call {n : Nat} (ih : rr_Bd n) {kd idx d t : Nat} {ins : Instr} {S As rest : List Value} {G : rr_G} {F' : rr_F} {r1 : rr_R} (E : rr_Env D cA ad base N f o s m args) (hx : p.tables.exec = Jvm.exec) (hb : c.code = cc) (hml : c.maxLocals = nL0) (hls : ls.size = nL0) (hd : decode cc pc = .ok (ins, len)) (hins : (kd = 0 ∧ ins = .invokevirtual idx) ∨ (kd = 1 ∧ ins = .invokespecial idx) ∨ (kd = 2 ∧ ins = .invokestatic idx))
    (hs : rr_cal kd o idx len S G.1 G.2.2 = some (t, As, rest)) (hfr : rr_fr t As = some F') (hrun : rr_run n d F' G = some r1) (hR1 : d + 1 ≤ R.frames) (hR2 : 100 * (d + 1) ≤ R.locals) (hc1 : cells + (r1.2.1 - G.1) ≤ R.cells) (hc2 : slots + (r1.2.2.1 - G.2.1) ≤ R.slots) (hsz : r1.2.1 ≤ 900000) (hro : ∀ k, k < 4 → G.2.2 (1000000 + k) = rr_cI (N k) (f k)) (hW : rr_W D cA ad base G.1 G.2.2 H) (hS : va_S (fun q => base ≤ q) s.heap H locs)
    (k : ∀ (H1 : Heap) (locs1 : List Loc), rr_W D cA ad base r1.2.1 r1.2.2.2 H1 → va_S (fun q => base ≤ q) s.heap H1 locs1 → W p l e R s m args below meth c H1 locs1 (cells + (r1.2.1 - G.1)) (slots + (r1.2.2.1 - G.2.1)) Q (F0 m (pc + 3) ls ((r1.1.toList ++ rest).map (rr_v ad)))) :
    W p l e R s m args below meth c H locs cells slots Q (F0 m pc ls (S.map (rr_v ad))) := by
  obtain ⟨y, cc', nL, rt, ci, na, st, nest, e1, e2, rfl, e4, rfl, e6, e7, e8, e9, e10⟩ := rr_cal_inv hs
  obtain ⟨m1, m2, m3, m4, m5, m6, m7, m8, m9, m10, m11, m12⟩ := rr_m_ok e2
  obtain ⟨y', hy', l1, l2⟩ := rr_ml_ok e1
  have hy : rr_y t = some y := by
    have ht := rr_m_lt e2
    unfold rr_y
    split <;> first | omega | (rw [e2]; rfl)
  have hyy := Option.some.inj (hy.symm.trans hy')
  subst hyy
  have hsz0 : G.1 ≤ 900000 := Nat.le_trans (rr_run_mono n d F' G r1 hrun).1 hsz
  have adi : ∀ a, a < G.1 → ad a = base + a := fun a ha => E.2.2.2.2.2.2 a (by omega)
  have hM := rr_met ih (l := l) (D := D) (cA := cA) (ad := ad) (base := base) (N := N) (f := f) hfr hrun e2 hsz hro E.2.2.2.2.2.2
  have ht := E.1
  have hG := rr_good m1
  have hini := ht _ m4
  have hRR : d + 1 ≤ R.frames ∧ 8 + (nL + 11) + 100 * d ≤ R.locals := ⟨hR1, by omega⟩
  have hB : ∀ U : State, U.heap = H → s.WarmedH U.vm → rr_B D cA ad base N f G.1 G.2.2 U := fun U hU hWm =>
    ⟨by rw [hU]; exact hW, va_K.moved hWm.alike E.2.2.1, rr_cs.moved hWm.alike E.2.2.2.1, E.2.2.2.2.1.warm hWm, by rw [hU]; exact (E.2.2.2.2.2.1.kept (fun q q1 q2 => hS.2.1 q q1 q2)).moved hWm.alike⟩
  have hfix : CallFix p m c cc nL0 s args rr_WS (rr_cn o) := ⟨hx, hb, hml, E.2.1, ht⟩
  have hrest : ((rest.map (rr_v ad)).map fun v => v.category).sum ≤ 8 := by rw [rr_cat_map]; exact e6
  have hk : ∀ (H1 : Heap) (locs1 : List Loc), rr_W D cA ad base r1.2.1 r1.2.2.2 H1 → va_S (fun q => base ≤ q) s.heap H1 locs1 → W p l e R s m args below meth c H1 locs1 (cells + (r1.2.1 - G.1)) (slots + (r1.2.2.1 - G.2.1)) Q (F0 m (pc + 3) ls ((r1.1.map (rr_v ad)).toList ++ rest.map (rr_v ad))) := by
    intro H1 locs1 q1 q2
    have h := k H1 locs1 q1 q2
    rw [List.map_append] at h
    cases hv : r1.1 with
    | none => rw [hv] at h; exact h
    | some v => rw [hv] at h; exact h
  rcases hins with ⟨rfl, rfl⟩ | ⟨rfl, rfl⟩ | ⟨rfl, rfl⟩
  · obtain ⟨rfl, b, As', fs, rfl, hbs, hbo⟩ := e9 rfl
    have hst : st = false := by rw [e7]; rfl
    subst hst
    have hni : ¬ y.name = "<init>" := fun q => absurd (e8.mp q) (by decide)
    have hsel : Cond.selects y.cls y y ∈ rr_WS := by
      rcases m3 with z | z | z
      · cases z
      · exact absurd z hni
      · exact z
    have hA := hW.2 b hbs
    rw [hbo] at hA
    obtain ⟨q, h1, cell, r1', r2', r3', -⟩ := hA
    have hcls := (E.2.2.1.1 ci q h1).2
    have hq1 : q.1 = y.cls := by
      have hlt : ci < 11 := (List.getElem?_eq_some_iff.mp h1).1
      have h5 := List.all_eq_true.mp rr_okI_all _ (List.mem_range.mpr hlt)
      rw [h1] at h5
      obtain ⟨C, T, M⟩ := q
      simp only [Bool.and_eq_true, decide_eq_true_eq] at h5
      rw [← m9, h5.2]
    have cw : CallW R s args (rr_cn o) y.cls idx y cc' nL rt (Cond.code y cc' nL rt :: rr_WS) ({ frames := d, cells := r1.2.1 - G.1, slots := r1.2.2.1 - G.2.1, locals := 100 * d } : Room) (r1.2.1 - G.1) (r1.2.2.1 - G.2.1) (na - 1) :=
      ⟨callB_of (na - 1) ht hG rfl rfl rfl hini (ht _ (l2 (by decide))) ⟨m6, m7, m8⟩ hRR, ht _ m2, ht _ hsel⟩
    have hstk : ((Value.ref b :: As').reverse ++ rest).map (rr_v ad) = (As'.map (rr_v ad)).reverse ++ .ref (ad b) :: rest.map (rr_v ad) := by
      simp [rr_v]
    refine rr_callG (va_runV (As := As'.map (rr_v ad)) (rest := rest.map (rr_v ad)) (b := ad b) hfix hM cw ⟨rr_B_blind, ⟨cell, by rw [adi b hbs]; exact r1', by rw [r3']; rfl, by rw [r2', ← hq1]; exact hcls.1⟩, fun U hU hWm => ⟨rfl, hB U hU hWm⟩⟩ rfl (by rw [List.length_map]; simp only [List.length_cons] at e4; omega) hls hstk (lv_room hrest) hd ⟨hc1, hc2⟩) hS hk
  · obtain ⟨b, As', rfl, hbs⟩ := e10 rfl
    have hi := e8.mpr rfl
    obtain ⟨rfl, rfl⟩ := m12 hi
    have hstk : ((Value.ref b :: As').reverse ++ rest).map (rr_v ad) = (As'.map (rr_v ad)).reverse ++ .ref (ad b) :: rest.map (rr_v ad) := by
      simp [rr_v]
    by_cases hn : nest = 1
    · have cw : va_CN R s args (rr_cn o) idx y "RainPurse" cc' nL none (Cond.code y cc' nL none :: rr_WS) ({ frames := d, cells := r1.2.1 - G.1, slots := r1.2.2.1 - G.2.1, locals := 100 * d } : Room) (r1.2.1 - G.1) (r1.2.2.1 - G.2.1) (na - 1) :=
        va_cnB (na - 1) ht hG rfl rfl rfl (E.2.2.2.2.1.1 _ (l1 hn) rfl) hini ⟨m6, m7, m8⟩ hRR
      exact rr_callG (va_runIN (As := As'.map (rr_v ad)) (rest := rest.map (rr_v ad)) (b := ad b) hfix hM ⟨cw, hi, ht _ m2⟩ ⟨rr_B_blind, fun U hU hWm => ⟨rfl, hB U hU hWm⟩⟩ rfl (by rw [List.length_map]; simp only [List.length_cons] at e4; omega) hls hstk (lv_room hrest) hd ⟨hc1, hc2⟩) hS hk
    · have cw : CallB R s args (rr_cn o) idx y cc' nL none (Cond.code y cc' nL none :: rr_WS) ({ frames := d, cells := r1.2.1 - G.1, slots := r1.2.2.1 - G.2.1, locals := 100 * d } : Room) (r1.2.1 - G.1) (r1.2.2.1 - G.2.1) (na - 1) :=
        callB_of (na - 1) ht hG rfl rfl rfl hini (ht _ (l2 hn)) ⟨m6, m7, m8⟩ hRR
      exact rr_callG (va_runI (As := As'.map (rr_v ad)) (rest := rest.map (rr_v ad)) (b := ad b) hfix hM ⟨cw, hi, ht _ m2⟩ ⟨rr_B_blind, fun U hU hWm => ⟨rfl, hB U hU hWm⟩⟩ rfl (by rw [List.length_map]; simp only [List.length_cons] at e4; omega) hls hstk (lv_room hrest) hd ⟨hc1, hc2⟩) hS hk
  · have hst : st = true := by rw [e7]; rfl
    subst hst
    have hstk : (As.reverse ++ rest).map (rr_v ad) = (As.map (rr_v ad)).reverse ++ rest.map (rr_v ad) := by
      simp
    by_cases hn : nest = 1
    · have cw : va_CN R s args (rr_cn o) idx y "RainPurse" cc' nL rt (Cond.code y cc' nL rt :: rr_WS) ({ frames := d, cells := r1.2.1 - G.1, slots := r1.2.2.1 - G.2.1, locals := 100 * d } : Room) (r1.2.1 - G.1) (r1.2.2.1 - G.2.1) na :=
        va_cnB na ht hG rfl rfl rfl (E.2.2.2.2.1.1 _ (l1 hn) rfl) hini ⟨m6, m7, m8⟩ hRR
      exact rr_callG (va_runSN (As := As.map (rr_v ad)) (rest := rest.map (rr_v ad)) hfix hM ⟨cw, ht _ m2, trivial⟩ ⟨rr_B_blind, fun U hU hWm => ⟨rfl, hB U hU hWm⟩⟩ rfl (by rw [List.length_map]; exact e4) hls hstk (lv_room hrest) hd ⟨hc1, hc2⟩) hS hk
    · have cw : CallB R s args (rr_cn o) idx y cc' nL rt (Cond.code y cc' nL rt :: rr_WS) ({ frames := d, cells := r1.2.1 - G.1, slots := r1.2.2.1 - G.2.1, locals := 100 * d } : Room) (r1.2.1 - G.1) (r1.2.2.1 - G.2.1) na :=
        callB_of na ht hG rfl rfl rfl hini (ht _ (l2 hn)) ⟨m6, m7, m8⟩ hRR
      exact rr_callG (va_runS (As := As.map (rr_v ad)) (rest := rest.map (rr_v ad)) hfix hM ⟨cw, ht _ m2⟩ ⟨rr_B_blind, fun U hU hWm => ⟨rfl, hB U hU hWm⟩⟩ rfl (by rw [List.length_map]; exact e4) hls hstk (lv_room hrest) hd ⟨hc1, hc2⟩) hS hk
end RR6
set_option maxHeartbeats 4000000 in
theorem rr_body : ∀ n, rr_Bd n
  | 0 => fun d F G r h => by cases h
  | n + 1 => by
    have ih := rr_body n
    intro d F G r h p l e R s m args below meth c H locs cells slots Q D cA ad base N f y cc nL rt o na st ls hmm hx hb hml hini E hR1 hR2 hc1 hc2 hsz hro hL hW hS hret
    rcases rr_run_cases h with ⟨q, h1, h2⟩ | ⟨t, As, rest, d', F', r1, h1, rfl, h3, h4, h5⟩ | ⟨v, h1, rfl⟩
    · obtain ⟨y', cc', nL', rt', o', na', st', ins, len, g1, g2, ha⟩ := rr_nx_inv h1
      have e := hmm.symm.trans g1
      cases e
      have hm := rr_run_mono n d _ _ r h2
      have hro2 := rr_run_ro n d _ _ r h2
      have hro1 := rr_run_ro (n + 1) d _ _ r h
      have ih2 := ih d _ _ r h2 p l e R s m args below meth c
      have hsz0 : G.1 ≤ 900000 := Nat.le_trans (rr_run_mono (n + 1) d _ _ r h).1 hsz
      rcases rr_act_cases ha with ⟨z, hz, e⟩ | ⟨z, hz, e⟩ | ⟨z, hz, e⟩ | ⟨z, hz, e⟩ | ⟨z, hz, e⟩ | ⟨z, hz, e⟩ | ⟨i, z, rfl, z1, z2, z3, hz, e⟩ | ⟨i, t, z, rfl, z1, z2, z3, z4, hz, e⟩ | ⟨i, z, -, -, e⟩ | ⟨i, z, -, -, e⟩ | ⟨i, z, -, -, e⟩ | ⟨z, -, e⟩
      all_goals first | (cases e; done) | skip
      · cases e
        exact rr_sim_op hx hb g2 hz (ih2 H locs cells slots Q D cA ad base N f y cc nL rt o na st ls hmm hx hb hml hini E hR1 hR2 hc1 hc2 hsz hro hL hW hS hret)
      · cases e
        exact rr_sim_lop hx hb g2 hL hz (fun ls' hL' => ih2 H locs cells slots Q D cA ad base N f y cc nL rt o na st ls' hmm hx hb hml hini E hR1 hR2 hc1 hc2 hsz hro hL' hW hS hret)
      · cases e
        exact rr_sim_jop hx hb g2 hz (ih2 H locs cells slots Q D cA ad base N f y cc nL rt o na st ls hmm hx hb hml hini E hR1 hR2 hc1 hc2 hsz hro hL hW hS hret)
      · cases e
        exact rr_sim_hop E hx hb g2 hW hS (by omega) hro hz (ih2 H locs cells slots Q D cA ad base N f y cc nL rt o na st ls hmm hx hb hml hini E hR1 hR2 hc1 hc2 hsz hro hL hW hS hret)
      · cases e
        refine rr_sim_wop E (fun q => hini (by simpa using q)) hx hb g2 hW hS (by omega) hz (fun H1 locs1 hW1 hS1 => ih2 H1 locs1 cells slots Q D cA ad base N f y cc nL rt o na st ls hmm hx hb hml hini E hR1 hR2 hc1 hc2 hsz (fun k hk => ?_) hL hW1 hS1 hret)
        rw [← hro k hk]
        exact (hro2 _ (by omega)).symm.trans (hro1 _ (by omega))
      · cases e
        obtain ⟨zn, zS, zc, zs, zh⟩ := z
        simp only at hm hro2
        have hpos := rr_nop_pos hz
        simp only at hpos
        refine rr_sim_nop E hx hb g2 hW hS (by omega) hz (by omega) (by omega) (fun H1 hW1 hS1 => ih2 H1 locs (cells + zc) (slots + zs) Q D cA ad base N f y cc nL rt o na st ls hmm hx hb hml hini E hR1 hR2 (by simp only; omega) (by simp only; omega) hsz (fun k hk => ?_) hL hW1 hS1 ?_)
        · rw [← hro k hk]
          exact (hro2 _ (by omega)).symm.trans (hro1 _ (by omega))
        · intro pc ls' S ins' H' locs' a1 a2 a3 a4
          have b1 : cells + zc + (r.2.1 - (G.1 + zc)) = cells + (r.2.1 - G.1) := by omega
          have b2 : slots + zs + (r.2.2.1 - (G.2.1 + zs)) = slots + (r.2.2.1 - G.2.1) := by omega
          refine W.cs b1 b2 ?_
          exact hret pc ls' S ins' H' locs' a1 a2 a3 a4
      · cases e
        refine rr_sim_ini E hx hb (by rw [hL.2.1, hml]) g2 z1 (by omega) (by omega) z3 hz (fun hh => ?_)
        exact ih2 H locs cells slots Q D cA ad base N f y cc nL rt o na st ls hmm hx hb hml hini E hR1 hR2 hc1 hc2 hsz (fun k hk => by show z.2 _ = _; rw [hh]; exact hro k hk) hL (by show rr_W D cA ad base G.1 z.2 H; rw [hh]; exact hW) hS hret
      · cases e
        refine rr_sim_sop E hx hb (by rw [hL.2.1, hml]) g2 hW hS (by omega) z2 z1 (by omega) (by omega) z4 (by omega) (by omega) hz (fun H1 locs1 hW1 hS1 => ih2 H1 locs1 cells slots Q D cA ad base N f y cc nL rt o na st ls hmm hx hb hml hini E hR1 hR2 hc1 hc2 hsz (fun k hk => ?_) hL hW1 hS1 hret)
        rw [← hro k hk]
        exact (hro2 _ (by omega)).symm.trans (hro1 _ (by omega))
    · obtain ⟨y', cc', nL', rt', o', na', st', ins, len, g1, g2, ha⟩ := rr_nx_inv h1
      have e := hmm.symm.trans g1
      cases e
      have hm1 := rr_run_mono n d' _ _ r1 h4
      have hm2 := rr_run_mono n (d' + 1) _ _ r h5
      have hro2 := rr_run_ro n d' _ _ r1 h4
      have key : ∃ kd idx, ((kd = 0 ∧ ins = Instr.invokevirtual idx) ∨ (kd = 1 ∧ ins = .invokespecial idx) ∨ (kd = 2 ∧ ins = .invokestatic idx)) ∧ rr_cal kd o idx len F.2.2.2 G.1 G.2.2 = some (t, As, rest) := by
        rcases rr_act_cases ha with ⟨z, hz, e⟩ | ⟨z, hz, e⟩ | ⟨z, hz, e⟩ | ⟨z, hz, e⟩ | ⟨z, hz, e⟩ | ⟨z, hz, e⟩ | ⟨i, z, rfl, z1, z2, z3, hz, e⟩ | ⟨i, t, z, rfl, z1, z2, z3, z4, hz, e⟩ | ⟨i, z, hi, hz, e⟩ | ⟨i, z, hi, hz, e⟩ | ⟨i, z, hi, hz, e⟩ | ⟨z, -, e⟩
        all_goals first | (cases e; done) | skip
        · cases e; exact ⟨0, i, Or.inl ⟨rfl, hi⟩, hz⟩
        · cases e; exact ⟨1, i, Or.inr (Or.inl ⟨rfl, hi⟩), hz⟩
        · cases e; exact ⟨2, i, Or.inr (Or.inr ⟨rfl, hi⟩), hz⟩
      obtain ⟨kd, idx, hins, hcal⟩ := key
      refine rr_sim_call ih E hx hb hml hL.2.1 g2 hins hcal h3 h4 hR1 hR2 (by omega) (by omega) (by omega) hro hW hS (fun H1 locs1 hW1 hS1 => ?_)
      refine ih (d' + 1) _ _ r h5 p l e R s m args below meth c H1 locs1 _ _ Q D cA ad base N f y cc nL rt o na st ls hmm hx hb hml hini E hR1 hR2 (by omega) (by omega) hsz (fun k hk => by rw [hro2 _ (by omega)]; exact hro k hk) hL hW1 hS1 ?_
      intro pc ls' S ins' H' locs' a1 a2 a3 a4
      have b1 : cells + (r1.2.1 - G.1) + (r.2.1 - r1.2.1) = cells + (r.2.1 - G.1) := by omega
      have b2 : slots + (r1.2.2.1 - G.2.1) + (r.2.2.1 - r1.2.2.1) = slots + (r.2.2.1 - G.2.1) := by omega
      refine W.cs b1 b2 ?_
      exact hret pc ls' S ins' H' locs' a1 a2 a3 a4
    · obtain ⟨y', cc', nL', rt', o', na', st', ins, len, g1, g2, ha⟩ := rr_nx_inv h1
      have e := hmm.symm.trans g1
      cases e
      have key : rr_ret rt ins len F.2.2.2 = some v := by
        rcases rr_act_cases ha with ⟨z, hz, e⟩ | ⟨z, hz, e⟩ | ⟨z, hz, e⟩ | ⟨z, hz, e⟩ | ⟨z, hz, e⟩ | ⟨z, hz, e⟩ | ⟨i, z, rfl, z1, z2, z3, hz, e⟩ | ⟨i, t, z, rfl, z1, z2, z3, z4, hz, e⟩ | ⟨i, z, hi, hz, e⟩ | ⟨i, z, hi, hz, e⟩ | ⟨i, z, hi, hz, e⟩ | ⟨z, hz, e⟩
        all_goals first | (cases e; done) | skip
        cases e
        exact hz
      have hlen := rr_ret_len key
      subst hlen
      have h0 := hret F.2.1 ls F.2.2.2 ins H locs g2 key hW hS
      simp only [Nat.sub_self, Nat.add_zero] at h0
      exact h0

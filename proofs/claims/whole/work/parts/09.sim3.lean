/-! ===== one step of the core is one step of the machine: writes, new cells ===== -/
theorem rr_S_put {A : Nat → Prop} {H0 H H1 : Heap} {locs : List Loc} {a k : Nat} (hS : va_S A H0 H locs) (hz : H1.size = H.size) (ho : ∀ q : Nat, q ≠ a → H1[q]? = H[q]?) (ha : A a) : va_S A H0 H1 (locs ++ [⟨a, k⟩]) :=
  ⟨by rw [hz]; exact hS.1, fun q h1 h2 => by rw [ho q (fun e => h2 (e ▸ ha))]; exact hS.2.1 q h1 h2, fun q hq => by
    rcases List.mem_append.mp hq with h | h
    · exact hS.2.2 q h
    · rw [List.mem_singleton.mp h]; exact ha⟩
theorem rr_S_push {A : Nat → Prop} {H0 H H1 : Heap} {locs : List Loc} (hS : va_S A H0 H locs) (hz : H.size ≤ H1.size) (ho : ∀ q : Nat, q < H.size → H1[q]? = H[q]?) : va_S A H0 H1 locs :=
  ⟨Nat.le_trans hS.1 hz, fun q h1 h2 => by rw [ho q (Nat.lt_of_lt_of_le h1 hS.1)]; exact hS.2.1 q h1 h2, hS.2.2⟩
theorem rr_map_set {ad : Nat → Nat} {fs : List Value} {k : Nat} {v : Value} : (fs.set k v).map (rr_v ad) = (fs.map (rr_v ad)).set k (rr_v ad v) := List.map_set
section RR3
variable {p : Program} {l : Launch} {e : Env} {R : Room} {s : State} {m : MethodId} {args : Array Value} {below : List Frame} {meth : Method} {c : Code} {H : Heap} {locs : List Loc} {cells slots : Nat} {Q : State → Prop}
variable {cc : ByteArray} {pc len : Nat} {ls : Array Slot} {ad : Nat → Nat} {D : va_G} {cA : Nat → ClassId} {base sz o : Nat} {h : rr_H} {N : Nat → Nat} {f : Nat → Nat → Int32}
theorem rr_sim_wop {ins : Instr} {S S' : List Value} {n : Nat} {h' : rr_H} {ini : Bool} (E : rr_Env D cA ad base N f o s m args) (hini : ini = true → meth.name = "<init>") (hx : p.tables.exec = Jvm.exec) (hb : c.code = cc) (hd : decode cc pc = .ok (ins, len)) (hW : rr_W D cA ad base sz h H) (hS : va_S (fun q => base ≤ q) s.heap H locs) (hsz : sz ≤ 1000000) (hs : rr_wop o ini ins len S sz h = some (n, S', h'))
    (k : ∀ (H1 : Heap) (locs1 : List Loc), rr_W D cA ad base sz h' H1 → va_S (fun q => base ≤ q) s.heap H1 locs1 → W p l e R s m args below meth c H1 locs1 cells slots Q (F0 m (pc + n) ls (S'.map (rr_v ad)))) : W p l e R s m args below meth c H locs cells slots Q (F0 m pc ls (S.map (rr_v ad))) := by
  have adi : ∀ a, a < sz → ad a = base + a := fun a ha => E.2.2.2.2.2.2 a (by omega)
  cases ins with
  | putfield idx =>
    simp only [rr_wop] at hs
    split at hs
    · split at hs
      · split at hs
        · rename_i v a S0 _ _ ci k0 tk fin cj fs hfl hha hc
          obtain ⟨rfl, ha, rfl, hk, hft, hfin⟩ := hc
          cases hs
          obtain ⟨C, T, M, ty, q1, q2, q3, q4, q5, q6, q7, q8⟩ := rr_fl_ok hfl
          obtain ⟨ty0, -, hty, hnm⟩ := rr_cls_ok q1
          have hA := hW.2 a ha
          rw [hha] at hA
          obtain ⟨r, h1, cell, r1, r2, r3, r4⟩ := hA
          have hr : r = (C, T, M) := Option.some.inj (h1.symm.trans q1)
          subst hr
          have hts := E.1
          have hin := rr_lays_ok q1
          obtain ⟨hSl, hfc, kC, hkC, hkind⟩ := E.2.2.1.1 ci _ q1
          obtain ⟨cf, kf, fi, fd, hi, hsl⟩ := hSl k0 q2
          have hap := va_apart (own := rr_cn o) hts hin ty0 hty hnm E.2.2.1 q1
          have hst := (u_facts hfc hkC (u_lays hts hin q2) hi).1
          obtain ⟨f1, f2⟩ := rr_fit_ok (ad := ad) q8 hft
          have hi' : s.fieldFound? C (T k0).2.1 (T k0).2.2.1 = some (cf, kf, fi, fd) := by rw [← q3]; exact hi
          have hlay := hts _ (hin _ (u_in_lay q2))
          unfold u_lay at hlay
          have fin1 : ∀ (H' : Heap), H'[base + a]? = some (cell.setSlot fd.slot (rr_v ad v)) → H'.size = H.size → (∀ q, q ≠ base + a → H'[q]? = H[q]?) → rr_W D cA ad base sz (rr_up h a (rr_cO ci (fs.set k0 v))) H' := by
            intro H' e1 e2 e3
            rw [hsl] at e1
            refine hW.up e2 ⟨_, q1, ?_⟩ e3
            rw [rr_map_set]
            exact t_OB.to (V := updV (vp_V (fs.map (rr_v ad))) k0 (rr_v ad v)) ⟨_, e1, r2, r3, t_set r4 hap q2 _⟩ (fun j _ => vp_updV_set (by rw [List.length_map]; exact hk) _ j)
          by_cases hf1 : fin = 1
          · obtain ⟨g1, g2⟩ := hfin hf1
            have hft' : (T k0).2.2.2 = true := by rw [q6]; simp [hf1]
            rw [if_pos hft'] at hlay
            have hcf : m.cls = cf := by
              obtain ⟨_, _, c', _, _, _, -, -, hf', -, -, -, hown2, -⟩ := Cond.laysFinal_spec hlay
              have e1 : c' = cf := by have := hi.symm.trans hf'; simp at this; exact this.1.symm
              rw [q3, ← q5, ← g2] at hown2
              rw [← e1]; exact Option.some.inj (E.2.1.symm.trans hown2)
            have h6 := u_fits hfc hkC hkind (Or.inr hlay) hi q7 f1 f2
            refine W.putFinK hx hb E.2.1 (hts _ q4) hi' hst hcf (hini g1) (a := ad a) (by rw [r2]; exact h6) (by rw [adi a ha]; exact r1) r3 (by rw [hsl]; exact k2_hasslot (r4 k0 q2)) rfl rfl hd fun H' e1 e2 e3 => ?_
            rw [adi a ha] at e1 e3 ⊢
            exact k H' _ (fin1 H' e1 e2 e3) (rr_S_put hS e2 e3 (Nat.le_add_right _ _))
          · have hft' : (T k0).2.2.2 = false := by rw [q6]; simp [hf1]
            rw [if_neg (by rw [hft']; decide)] at hlay
            have h6 := u_store hfc hkC hkind hlay hi q7 f1 f2
            refine W.putK hx hb (f := fd) ⟨E.2.1, hts _ q4, ⟨_, _, _, hi'⟩, hst⟩ (a := ad a) (by rw [r2]; exact h6) (by rw [adi a ha]; exact r1) r3 (by rw [hsl]; exact k2_hasslot (r4 k0 q2)) rfl rfl hd fun H' e1 e2 e3 => ?_
            rw [adi a ha] at e1 e3 ⊢
            exact k H' _ (fin1 H' e1 e2 e3) (rr_S_put hS e2 e3 (Nat.le_add_right _ _))
        · cases hs
      · cases hs
    · cases hs
  | iastore =>
    simp only [rr_wop] at hs
    split at hs
    · split at hs
      · split at hs
        · rename_i x i a S0 _ n0 g hha hc
          obtain ⟨ha, hi, rfl⟩ := hc
          cases hs
          have hin := rr_inI hi
          have hA := hW.2 a ha
          rw [hha] at hA
          refine W.iast hx hb (a := ad a) (by rw [adi a ha]; exact hA) (E.2.2.2.1.1.1 n0 (fun j => .int (g j))) (fun q => by cases q) (by rw [arrV_size]; exact hin) rfl rfl hd fun H1 e1 e2 e3 => ?_
          rw [adi a ha] at e1 e3 ⊢
          refine k H1 _ (hW.up e2 ?_ e3) (rr_S_put hS e2 e3 (Nat.le_add_right _ _))
          show H1[base + a]? = some (arrV _ _ _)
          rw [e1, arrV_store]
          refine congrArg some (congrArg (arrV _ _) (funext fun q => ?_))
          by_cases hq : q = i.toNatClampNeg <;> simp [updV, upd, hq]
        · cases hs
      · cases hs
    · cases hs
  | lastore =>
    simp only [rr_wop] at hs
    split at hs
    · split at hs
      · split at hs
        · rename_i x i a S0 _ n0 g hha hc
          obtain ⟨ha, hi, rfl⟩ := hc
          cases hs
          have hin := rr_inI hi
          have hA := hW.2 a ha
          rw [hha] at hA
          refine W.last hx hb (a := ad a) (by rw [adi a ha]; exact hA) (E.2.2.2.1.2.1.1 n0 (fun j => .long (g j))) (fun q => by cases q) (by rw [arrV_size]; exact hin) rfl rfl hd fun H1 e1 e2 e3 => ?_
          rw [adi a ha] at e1 e3 ⊢
          refine k H1 _ (hW.up e2 ?_ e3) (rr_S_put hS e2 e3 (Nat.le_add_right _ _))
          show H1[base + a]? = some (arrV _ _ _)
          rw [e1, arrV_store]
          refine congrArg some (congrArg (arrV _ _) (funext fun q => ?_))
          by_cases hq : q = i.toNatClampNeg <;> simp [updV, vp_updL, hq]
        · cases hs
      · cases hs
    · cases hs
  | aastore =>
    simp only [rr_wop] at hs
    split at hs
    · split at hs
      · split at hs
        · rename_i v i a S0 _ _ t0 n0 g cj fs hha hhv hc
          obtain ⟨ha, hv, rfl, rfl, hi, rfl⟩ := hc
          cases hs
          have hin := rr_inI hi
          have h0 : ¬ i < 0 := fun q => hin (Or.inl q)
          have hlt : i.toNatClampNeg < n0 := Nat.not_le.mp fun q => hin (Or.inr q)
          have hA := hW.2 a ha
          rw [hha] at hA
          have hV := hW.2 v hv
          rw [hhv] at hV
          obtain ⟨r', hr', cellV, g1, g2, g3, -⟩ := hV
          have hcls := (E.2.2.1.1 5 _ (rfl : vwCl[5]? = some (RX5, TX5, 3))).2
          obtain ⟨kA, comp, k1, k2, k3, -⟩ := E.2.2.2.1.2.2.1.2
          have hcomp : comp = D.1 5 := Option.some.inj (k3.symm.trans hcls.1)
          subst hcomp
          obtain ⟨kC, hkC, -⟩ := hcls.2
          refine W.aast hx hb (a := ad a) (v := ad v) (cell := arrV (cA 2) n0 (fun j => va_rf ((g j).map ad))) (by rw [adi a ha]; exact hA) (fun q h => by cases h) (fun h => by cases h) k1 k2 rfl hkC ⟨h0, by rw [arrV_size]; exact hlt⟩ (by rw [adi v hv]; exact g1) (fun q h => by rw [g3] at h; cases h) (by rw [g2]; exact hkC) (by rw [g2]; exact va_assign hcls) rfl rfl hd fun H1 e1 e2 e3 => ?_
          rw [adi a ha] at e1 e3 ⊢
          refine k H1 _ (hW.up e2 ?_ e3) (rr_S_put hS e2 e3 (Nat.le_add_right _ _))
          show H1[base + a]? = some (arrV _ _ _)
          rw [e1, arrV_store]
          refine congrArg some (congrArg (arrV _ _) (funext fun q => ?_))
          by_cases hq : q = i.toNatClampNeg <;> simp [updV, va_up, hq, va_rf]
        · cases hs
      · cases hs
    · cases hs
  | _ => cases hs
theorem rr_sim_nop {ins : Instr} {S S' : List Value} {n nc ns : Nat} {h' : rr_H} (E : rr_Env D cA ad base N f o s m args) (hx : p.tables.exec = Jvm.exec) (hb : c.code = cc) (hd : decode cc pc = .ok (ins, len)) (hW : rr_W D cA ad base sz h H) (hS : va_S (fun q => base ≤ q) s.heap H locs) (hsz : sz ≤ 900000) (hs : rr_nop o ins len S sz h = some (n, S', nc, ns, h')) (hc1 : cells + nc ≤ R.cells) (hc2 : slots + ns ≤ R.slots)
    (k : ∀ (H1 : Heap), rr_W D cA ad base (sz + nc) h' H1 → va_S (fun q => base ≤ q) s.heap H1 locs → W p l e R s m args below meth c H1 locs (cells + nc) (slots + ns) Q (F0 m (pc + n) ls (S'.map (rr_v ad)))) : W p l e R s m args below meth c H locs cells slots Q (F0 m pc ls (S.map (rr_v ad))) := by
  have hsa : ad sz = H.size := by rw [E.2.2.2.2.2.2 sz (by omega), hW.1]
  have i0 : ∀ x : Int32, 0 ≤ x → ¬ x < 0 := fun x hx => Int32.not_lt.mpr hx
  cases ins with
  | new idx =>
    simp only [rr_nop] at hs
    obtain ⟨ci, hci, hs2⟩ := Option.bind_eq_some_iff.mp hs
    clear hs
    obtain ⟨fs, hfs, hs3⟩ := Option.bind_eq_some_iff.mp hs2
    clear hs2
    split at hs3
    · subst len
      cases hs3
      obtain ⟨⟨o', idx', ci', p'⟩, h1, h2, h3⟩ := rr_find hci
      cases h3
      simp only [Bool.and_eq_true, beq_iff_eq] at h2
      obtain ⟨rfl, rfl⟩ := h2
      have h4 := List.all_eq_true.mp rr_okC_all _ h1
      simp only [rr_okC] at h4
      have hlt : ci' < 11 := (List.getElem?_eq_some_iff.mp hfs).1
      rw [if_neg (by omega)] at h4
      simp only [Bool.and_eq_true, decide_eq_true_eq] at h4
      have h5 := List.all_eq_true.mp rr_okI_all _ (List.mem_range.mpr hlt)
      have h6 := List.all_eq_true.mp rr_okD _ (List.mem_range.mpr hlt)
      cases hv : vwCl[ci']? with
      | none => rw [hv] at h5; cases h5
      | some q =>
        obtain ⟨C, T, M⟩ := q
        obtain ⟨ty0, hy0, hty, -⟩ := rr_cls_ok hv
        rw [hv] at h5
        rw [hv, hfs, hy0] at h6
        simp only [Bool.and_eq_true, decide_eq_true_eq] at h5 h6
        obtain ⟨⟨j1, j2⟩, j3⟩ := h5
        obtain ⟨j4, j5⟩ := h6
        have hKn := E.2.2.1.1 ci' _ hv
        have hini : (Cond.initialized C).before args s = true := by
          cases hp : rr_iniP[ci']? with
          | none => rw [hp] at j2; cases j2
          | some z => rw [hp] at j2; exact E.1 _ (rr_at_mem j2)
        have hcl := E.1 _ (rr_at_mem h4.2)
        rw [j3] at hcl
        subst j4
        refine W.newcK hx hb E.2.1 hcl (E.1 _ (rr_at_mem j1)) hini rfl hd hc1 hc2 hKn.2.1 rfl fun H1 kC hkC e1 e2 e3 => ?_
        rw [← hsa]
        refine k H1 (hW.push e2 ⟨_, hv, ?_⟩ e3) (rr_S_push hS (by omega) e3)
        rw [hW.1] at e1
        refine (u_born ty0 E.1 (rr_lays_ok hv) hKn hkC e1 hty).to (fun j hj => ?_)
        have h7 := decide_eq_true_eq.mp (List.all_eq_true.mp j5 j (List.mem_range.mpr hj))
        rw [h7]
        unfold vp_V
        simp only [List.getD_eq_getElem?_getD, List.getElem?_map]
        have hj' : j < fs.length := hj
        rw [List.getElem?_eq_getElem hj']
        have h8 : rr_v ad fs[j] = fs[j] := by
          have h9 : fs[j] = defaultValue (ty0 j) := by rw [h7]; unfold vp_V; rw [List.getD_eq_getElem?_getD, List.getElem?_eq_getElem hj']; rfl
          rw [h9]
          cases ty0 j <;> rfl
        simp [h8]
    · cases hs3
  | newarray at0 =>
    have hA0 := (rr_okX)
    simp only [Bool.and_eq_true] at hA0
    cases at0 with
    | int =>
      simp only [rr_nop] at hs
      split at hs
      · split at hs
        · rename_i nn S0 hc
          obtain ⟨h1, h2, rfl⟩ := hc
          cases hs
          refine va_newaK (atype := .int) hx hb (E.1 _ (rr_at_mem hA0.1.1.1.1.1.1.1.1)) rfl hd rfl (i0 _ h1) rfl (by show _ * 4 ≤ _; omega) hc1 hc2 rfl fun H1 cA' e1 e2 e3 e4 e5 => ?_
          rw [← hsa]
          have hcc : cA' = cA 0 := Option.some.inj (e5.symm.trans E.2.2.2.1.1.2)
          subst hcc
          refine k H1 (hW.push e2 ?_ e3) (rr_S_push hS (by omega) e3)
          rw [hW.1] at e1
          exact e1
        · cases hs
      · cases hs
    | long =>
      simp only [rr_nop] at hs
      split at hs
      · split at hs
        · rename_i nn S0 hc
          obtain ⟨h1, h2, rfl⟩ := hc
          cases hs
          refine va_newaK (atype := .long) hx hb (E.1 _ (rr_at_mem hA0.1.1.1.1.1.1.1.2)) rfl hd rfl (i0 _ h1) rfl (by show _ * 8 ≤ _; omega) hc1 hc2 rfl fun H1 cA' e1 e2 e3 e4 e5 => ?_
          rw [← hsa]
          have hcc : cA' = cA 1 := Option.some.inj (e5.symm.trans E.2.2.2.1.2.1.2)
          subst hcc
          refine k H1 (hW.push e2 ?_ e3) (rr_S_push hS (by omega) e3)
          rw [hW.1] at e1
          exact e1
        · cases hs
      · cases hs
    | _ => cases hs
  | anewarray idx =>
    simp only [rr_nop] at hs
    split at hs
    · split at hs
      · rename_i nn S0 hc
        obtain ⟨h1, h2, rfl, h3⟩ := hc
        cases hs
        obtain ⟨⟨o', idx', ci', p'⟩, g1, g2, g3⟩ := rr_find h3
        cases g3
        simp only [Bool.and_eq_true, beq_iff_eq] at g2
        obtain ⟨rfl, rfl⟩ := g2
        have h4 := List.all_eq_true.mp rr_okC_all _ g1
        simp only [rr_okC] at h4
        rw [if_neg (by omega)] at h4
        simp only [Bool.and_eq_true, decide_eq_true_eq] at h4
        refine W.anew (C := "RainPurse$Sheet") hx hb E.2.1 (E.1 _ (rr_at_mem h4.2)) (va_AO.use E.2.2.2.2.1.2.1) rfl hd rfl (i0 _ h1) (by omega) hc1 hc2 fun cA' kA comp e1 e2 e3 e4 => ?_
        obtain ⟨kA', comp', f1, f2, f3, f4⟩ := E.2.2.2.1.2.2.1.2
        have hcc : cA' = cA 2 := Option.some.inj (e1.symm.trans f4)
        subst hcc
        rw [← hsa]
        refine k _ (hW.push (by simp) ?_ (fun q hq => by rw [Array.getElem?_push, if_neg (Nat.ne_of_lt hq)])) (rr_S_push hS (by simp) (fun q hq => by rw [Array.getElem?_push, if_neg (Nat.ne_of_lt hq)]))
        show (H.push _)[base + sz]? = some (arrV (cA 2) _ _)
        rw [← hW.1, arrV_new]
        simp [va_rf]
      · cases hs
    · cases hs
  | multianewarray idx dm =>
    have hA0 := rr_okX
    simp only [Bool.and_eq_true] at hA0
    unfold rr_nop at hs
    split at hs
    · rename_i h0; cases h0
    · rename_i h0; cases h0
    · rename_i h0; cases h0
    · rename_i h0; cases h0
    · rename_i idx' h0
      cases h0
      split at hs
      · split at hs
        · rename_i kk nn S0 hc
          obtain ⟨h1, h2, h3, h4, rfl, h5⟩ := hc
          cases hs
          obtain ⟨⟨o', idx', ci', p'⟩, g1, g2, g3⟩ := rr_find h5
          cases g3
          simp only [Bool.and_eq_true, beq_iff_eq] at g2
          obtain ⟨rfl, rfl⟩ := g2
          have h6 := List.all_eq_true.mp rr_okC_all _ g1
          have h6 : rr_at p' (.classLink (rr_cn o') idx' "[[I") = true := h6
          refine rr_mu_W hx hb E.2.1 (E.1 _ (rr_at_mem h6)) E.2.2.2.2.1.2.2 (E.1 _ (rr_at_mem hA0.1.1.1.1.1.1.1.1)) rfl hd rfl (i0 _ h1) (i0 _ h2) (by omega) (by omega) hS.1 hc1 hc2 fun H1 cO cI fA fC z1 z2 z3 z4 => ?_
          have ea : cO = cA 3 := Option.some.inj (fA.symm.trans E.2.2.2.1.2.2.2.2)
          have eb : cI = cA 0 := Option.some.inj (fC.symm.trans E.2.2.2.1.1.2)
          subst ea
          subst eb
          have hW2 : rr_W D cA ad base (sz + (1 + nn.toNatClampNeg)) (rr_mul h sz nn.toNatClampNeg kk.toNatClampNeg) H1 := by
            refine ⟨by rw [z1, hW.1]; omega, fun i hi => ?_⟩
            unfold rr_mul
            by_cases hi0 : i = sz
            · subst hi0
              rw [if_pos rfl, ← hW.1]
              show _ = some (arrV (cA 3) _ _)
              rw [z3]
              refine congrArg some (congrArg (arrV _ _) (funext fun j => ?_))
              unfold rr_mf
              by_cases hj : j < nn.toNatClampNeg
              · simp only [if_pos hj, Option.map_some]
                rw [E.2.2.2.2.2.2 _ (by omega), hW.1]
                congr 1
                congr 1
                omega
              · simp only [if_neg hj, Option.map_none]
            · rw [if_neg hi0]
              by_cases hi1 : sz < i ∧ i < sz + 1 + nn.toNatClampNeg
              · rw [if_pos hi1]
                have h9 := z4 (i - sz - 1) (by omega)
                rw [hW.1, show base + sz + 1 + (i - sz - 1) = base + i by omega] at h9
                exact h9
              · rw [if_neg hi1]
                exact (hW.2 i (by omega)).kept (z2 _ (by rw [hW.1]; omega))
          have hk2 := k H1 hW2 (rr_S_push hS (by rw [z1]; omega) z2)
          rw [← hsa]
          exact hk2
        · cases hs
      · cases hs
    · cases hs
  | _ => cases hs
end RR3

/-! ===== what the tables' rows say ===== -/
theorem rr_find {α : Type} {l : List α} {pr : α → Bool} {β : Type} {g : α → β} {b : β} (h : (l.find? pr).map g = some b) : ∃ q ∈ l, pr q = true ∧ g q = b := by
  obtain ⟨q, h1, h2⟩ := Option.map_eq_some_iff.mp h
  exact ⟨q, List.mem_of_find?_eq_some h1, List.find?_some h1, h2⟩
theorem rr_fl_ok {o idx ci k tk fin : Nat} (h : rr_fl o idx = some (ci, k, tk, fin)) : ∃ (C : String) (T : u_T) (N : Nat) (ty : FieldType), vwCl[ci]? = some (C, T, N) ∧ k < N ∧ (T k).1 = C ∧ Cond.fieldLink (rr_cn o) idx C (T k).2.1 (T k).2.2.1 ∈ rr_WS ∧ rr_cn ci = C ∧ (T k).2.2.2 = decide (fin = 1) ∧ parseFieldDescriptor (T k).2.2.1 = some ty ∧ rr_tyk tk ty = true := by
  obtain ⟨⟨o', idx', ci', k', tk', fin', p'⟩, h1, h2, h3⟩ := rr_find h
  cases h3
  simp only [Bool.and_eq_true, beq_iff_eq] at h2
  obtain ⟨rfl, rfl⟩ := h2
  have h4 := List.all_eq_true.mp rr_okF_all _ h1
  simp only [rr_okF] at h4
  cases hc : vwCl[ci']? with
  | none => rw [hc] at h4; cases h4
  | some q =>
    obtain ⟨C, T, N⟩ := q
    rw [hc] at h4
    simp only [Bool.and_eq_true, decide_eq_true_eq] at h4
    obtain ⟨⟨⟨⟨⟨a1, a2⟩, a3⟩, a4⟩, a5⟩, a6⟩ := h4
    cases hp : parseFieldDescriptor (T k').2.2.1 with
    | none => rw [hp] at a6; cases a6
    | some ty =>
      rw [hp] at a6
      exact ⟨C, T, N, ty, rfl, a1, a2, rr_at_mem a3, a4, a5, hp, a6⟩
theorem rr_lays_ok {ci : Nat} {C : String} {T : u_T} {N : Nat} (h : vwCl[ci]? = some (C, T, N)) : ∀ w ∈ u_ws C T N, w ∈ rr_WS := by
  intro w hw
  have hlt : ci < 11 := (List.getElem?_eq_some_iff.mp h).1
  have hl : ci < rr_lays.length := hlt
  have h1 : (vwCl.zip rr_lays)[ci]? = some ((C, T, N), rr_lays[ci]) := by
    rw [List.getElem?_zip_eq_some]
    exact ⟨h, List.getElem?_eq_getElem hl⟩
  have h2 := List.all_eq_true.mp rr_okK_all _ (List.mem_of_getElem? h1)
  unfold rr_okK at h2
  simp only [Bool.and_eq_true, decide_eq_true_eq] at h2
  obtain ⟨h3, h4⟩ := h2
  obtain ⟨i, hi⟩ := List.getElem?_of_mem hw
  have hi' : i < (u_ws C T N).length := (List.getElem?_eq_some_iff.mp hi).1
  have hn : (u_ws C T N).length = N := by simp [u_ws]
  have h5 : ((u_ws C T N).zip rr_lays[ci])[i]? = some (w, (rr_lays[ci])[i]'(by rw [h3]; omega)) := by
    rw [List.getElem?_zip_eq_some]
    exact ⟨hi, List.getElem?_eq_getElem _⟩
  exact rr_at_mem (List.all_eq_true.mp h4 _ (List.mem_of_getElem? h5))
theorem rr_cls_ok {ci : Nat} {C : String} {T : u_T} {N : Nat} (h : vwCl[ci]? = some (C, T, N)) : ∃ (ty0 : Nat → FieldType), rr_tys[ci]? = some ty0 ∧ (∀ k, k < N → parseFieldDescriptor (T k).2.2.1 = some (ty0 k)) ∧ (∀ a, a < N → ∀ b, b < N → a ≠ b → (T a).2.1 ≠ (T b).2.1) := by
  match ci, h with
  | 0, h => cases h; exact ⟨tyX0, rfl, tyX0_ok, nmX0⟩
  | 1, h => cases h; exact ⟨tyX1, rfl, tyX1_ok, nmX1⟩
  | 2, h => cases h; exact ⟨tyX2, rfl, tyX2_ok, nmX2⟩
  | 3, h => cases h; exact ⟨tyX3, rfl, tyX3_ok, nmX3⟩
  | 4, h => cases h; exact ⟨tyX4, rfl, tyX4_ok, nmX4⟩
  | 5, h => cases h; exact ⟨tyX5, rfl, tyX5_ok, nmX5⟩
  | 6, h => cases h; exact ⟨tyX6, rfl, tyX6_ok, nmX6⟩
  | 7, h => cases h; exact ⟨tyX7, rfl, tyX7_ok, nmX7⟩
  | 8, h => cases h; exact ⟨tyX8, rfl, tyX8_ok, nmX8⟩
  | 9, h => cases h; exact ⟨tyX9, rfl, tyX9_ok, nmX9⟩
  | 10, h => cases h; exact ⟨tyX10, rfl, tyX10_ok, nmX10⟩
  | n + 11, h => simp [vwCl] at h
theorem rr_fit_ok {tk : Nat} {ty : FieldType} {v : Value} {ad : Nat → Nat} (h1 : rr_tyk tk ty = true) (h2 : rr_fit tk v = true) : narrow ty (rr_v ad v) = rr_v ad v ∧ fits ty (rr_v ad v) = true := by
  unfold rr_tyk at h1
  split at h1 <;> unfold rr_fit at h2 <;> cases v <;> first | (cases h2; done) | (cases h1; done) | exact ⟨rfl, rfl⟩ | skip
  rename_i x
  simp only [Bool.or_eq_true, decide_eq_true_eq] at h2
  rcases h2 with rfl | rfl <;> exact ⟨rfl, rfl⟩
/-- what holds of a method's start for the core's step -/
def rr_Env (D : va_G) (cA : Nat → ClassId) (ad : Nat → Nat) (base : Nat) (N : Nat → Nat) (f : Nat → Nat → Int32) (o : Nat) (s : State) (m : MethodId) (args : Array Value) : Prop :=
  (∀ w ∈ rr_WS, w.before args s = true) ∧ s.vm.findClass (rr_cn o) = some m.cls ∧ va_K D vwCl [] s ∧ rr_cs cA s ∧ rr_NW s ∧ rr_RK ad (fun q => base ≤ q) N f s s.heap ∧ ∀ i, i < 1000000 → ad i = base + i
theorem rr_inI {i : Int32} {n : Nat} (h : rr_in i n = true) : vp_in i n := by
  simp only [rr_in, Bool.and_eq_true, decide_eq_true_eq] at h
  rintro (q | q)
  · exact absurd h.1 (Int32.not_le.mpr q)
  · omega
section RR2
variable {p : Program} {l : Launch} {e : Env} {R : Room} {s : State} {m : MethodId} {args : Array Value} {below : List Frame} {meth : Method} {c : Code} {H : Heap} {locs : List Loc} {cells slots : Nat} {Q : State → Prop}
variable {cc : ByteArray} {pc len : Nat} {ls : Array Slot} {ad : Nat → Nat} {D : va_G} {cA : Nat → ClassId} {base sz o : Nat} {h : rr_H} {N : Nat → Nat} {f : Nat → Nat → Int32}
theorem rr_ro_at (E : rr_Env D cA ad base N f o s m args) (hS : va_S (fun q => base ≤ q) s.heap H locs) {a : Nat} (h1 : 1000000 ≤ a) (h2 : a < 1000004) : va_T .int (ad a) (N (a - 1000000)) (fun j => .int (f (a - 1000000) j)) (fun q => base ≤ q) s H := by
  have hh := (E.2.2.2.2.2.1.kept (fun q q1 q2 => hS.2.1 q q1 q2)).2 (a - 1000000) (by omega)
  rwa [show 1000000 + (a - 1000000) = a by omega] at hh
theorem rr_sim_hop {ins : Instr} {S S' : List Value} {n : Nat} (E : rr_Env D cA ad base N f o s m args) (hx : p.tables.exec = Jvm.exec) (hb : c.code = cc) (hd : decode cc pc = .ok (ins, len)) (hW : rr_W D cA ad base sz h H) (hS : va_S (fun q => base ≤ q) s.heap H locs) (hsz : sz ≤ 1000000) (hro : ∀ k, k < 4 → h (1000000 + k) = rr_cI (N k) (f k)) (hs : rr_hop o ins len S sz h = some (n, S'))
    (k : W p l e R s m args below meth c H locs cells slots Q (F0 m (pc + n) ls (S'.map (rr_v ad)))) : W p l e R s m args below meth c H locs cells slots Q (F0 m pc ls (S.map (rr_v ad))) := by
  have adi : ∀ a, a < sz → ad a = base + a := fun a ha => E.2.2.2.2.2.2 a (by omega)
  cases ins with
  | getfield idx =>
    simp only [rr_hop] at hs
    split at hs
    · split at hs
      · split at hs
        · rename_i a S0 _ _ ci k0 tk fin cj fs hfl hha hc
          obtain ⟨rfl, ha, rfl⟩ := hc
          obtain ⟨v, hv, he⟩ := Option.map_eq_some_iff.mp hs
          cases he
          obtain ⟨C, T, M, ty, q1, q2, q3, q4, q5, -, -, -⟩ := rr_fl_ok hfl
          have hA := hW.2 a ha
          rw [hha] at hA
          have hP : va_P D vwCl [(ad a, .inr (ci, fs.map (rr_v ad)))] H := by
            intro j q hq
            match j, hq with
            | 0, hq => cases hq; rw [adi a ha]; exact hA
            | j + 1, hq => simp at hq
          refine va_get (own := rr_cn o) (ref := C) (T := T) (N := M) hx hb E.1 (rr_lays_ok q1) E.2.1 E.2.2.1 hP 0 rfl q1 k0 q2 (E.1 _ q4) (fun x hx => by rw [← q3]; exact hx) (v := rr_v ad v) (by rw [List.getElem?_map, hv]; rfl) hd k
        · cases hs
      · cases hs
    · cases hs
  | iaload =>
    simp only [rr_hop] at hs
    split at hs
    · split at hs
      · split at hs
        · rename_i i a S0 _ n0 g hha hc
          obtain ⟨hr, hi, rfl⟩ := hc
          cases hs
          have hin := rr_inI hi
          have hlt : i.toNatClampNeg < n0 := Nat.not_le.mp fun q => hin (Or.inr q)
          simp only [rr_rd, Bool.or_eq_true, decide_eq_true_eq, Bool.and_eq_true] at hr
          by_cases ha : a < sz
          · have hA := hW.2 a ha
            rw [hha] at hA
            refine W.iald (v := .int (g i.toNatClampNeg)) hx hb (a := ad a) (by rw [adi a ha]; exact hA) (E.2.2.2.1.1.1 n0 (fun j => .int (g j))) (fun q => by cases q) (by rw [arrV_size]; exact hin) (by rw [arrV_read _ _ hlt]) rfl rfl hd k
          · have hr' := hr.resolve_left ha
            obtain ⟨cell, t1, t2, t3, t4, t5, t6, -⟩ := rr_ro_at E hS hr'.1 hr'.2
            have e := hro (a - 1000000) (by omega)
            rw [Nat.add_sub_cancel' hr'.1, hha] at e
            cases e
            exact W.iald (v := .int (f (a - 1000000) i.toNatClampNeg)) hx hb t1 t2 t3 (fun q => hin (q.imp id (fun z => Nat.le_trans t4 z))) (t6 _ hlt) rfl rfl hd k
        · cases hs
      · cases hs
    · cases hs
  | laload =>
    simp only [rr_hop] at hs
    split at hs
    · split at hs
      · split at hs
        · rename_i i a S0 _ n0 g hha hc
          obtain ⟨ha, hi, rfl⟩ := hc
          cases hs
          have hin := rr_inI hi
          have hlt : i.toNatClampNeg < n0 := Nat.not_le.mp fun q => hin (Or.inr q)
          have hA := hW.2 a ha
          rw [hha] at hA
          refine W.lald (v := .long (g i.toNatClampNeg)) hx hb (a := ad a) (by rw [adi a ha]; exact hA) (E.2.2.2.1.2.1.1 n0 (fun j => .long (g j))) (fun q => by cases q) (by rw [arrV_size]; exact hin) (by rw [arrV_read _ _ hlt]) rfl rfl hd k
        · cases hs
      · cases hs
    · cases hs
  | aaload =>
    simp only [rr_hop] at hs
    split at hs
    · split at hs
      · split at hs
        · rename_i i a S0 _ t0 n0 g hha hc
          obtain ⟨ht, ha, hi, rfl⟩ := hc
          cases hs
          have hin := rr_inI hi
          have hlt : i.toNatClampNeg < n0 := Nat.not_le.mp fun q => hin (Or.inr q)
          have hA := hW.2 a ha
          rw [hha] at hA
          rw [List.map_cons, rr_v_rf] at k
          have h01 : t0 = 0 ∨ t0 = 1 := by omega
          rcases h01 with rfl | rfl
          · exact W.aald (ty := .object "RainPurse$Sheet") (v := va_rf ((g i.toNatClampNeg).map ad)) hx hb (a := ad a) (by rw [adi a ha]; exact hA) (E.2.2.2.1.2.2.1.1 n0 (fun j => va_rf ((g j).map ad))) rfl (fun q => by cases q) (by rw [arrV_size]; exact hin) (by rw [arrV_read _ _ hlt]) rfl rfl hd k
          · exact W.aald (ty := .array .int) (v := va_rf ((g i.toNatClampNeg).map ad)) hx hb (a := ad a) (by rw [adi a ha]; exact hA) (E.2.2.2.1.2.2.2.1 n0 (fun j => va_rf ((g j).map ad))) rfl (fun q => by cases q) (by rw [arrV_size]; exact hin) (by rw [arrV_read _ _ hlt]) rfl rfl hd k
        · cases hs
      · cases hs
    · cases hs
  | arraylength =>
    simp only [rr_hop] at hs
    split at hs
    · split at hs
      · split at hs
        · rename_i a S0 _ n0 g hha hc
          obtain ⟨hr, rfl⟩ := hc
          cases hs
          simp only [rr_rd, Bool.or_eq_true, decide_eq_true_eq, Bool.and_eq_true] at hr
          by_cases ha : a < sz
          · have hA := hW.2 a ha
            rw [hha] at hA
            exact W.alen (n := Int32.ofNat n0) hx hb (a := ad a) (by rw [adi a ha]; exact hA) (E.2.2.2.1.1.1 n0 (fun j => .int (g j))) (by rw [arrV_size] <;> rfl) rfl rfl hd k
          · have hr' := hr.resolve_left ha
            obtain ⟨cell, t1, t2, t3, t4, t5, t6, -⟩ := rr_ro_at E hS hr'.1 hr'.2
            have e := hro (a - 1000000) (by omega)
            rw [Nat.add_sub_cancel' hr'.1, hha] at e
            cases e
            exact W.alen (n := Int32.ofNat (N (a - 1000000))) hx hb t1 t2 t5 rfl rfl hd k
        · cases hs
      · cases hs
    · cases hs
  | getstatic idx =>
    simp only [rr_hop] at hs
    obtain ⟨k0, hk0, hs2⟩ := Option.bind_eq_some_iff.mp hs
    clear hs
    split at hs2
    · subst len
      cases hs2
      obtain ⟨⟨o', idx', k', nest, p'⟩, h1, h2, h3⟩ := rr_find hk0
      cases h3
      simp only [Bool.and_eq_true, beq_iff_eq] at h2
      obtain ⟨rfl, rfl⟩ := h2
      have h4 := List.all_eq_true.mp rr_okS_all _ h1
      unfold rr_okS at h4
      simp only [Bool.and_eq_true, decide_eq_true_eq] at h4
      have hZ := E.2.2.2.2.2.1.1 _ h4.2
      by_cases hn : nest = 1
      · rw [if_pos hn] at h4
        have hw := E.2.2.2.2.1.1 _ (rr_atN_mem h4.1) rfl
        exact va_getsN hx hb hZ hS E.2.1 (va_Nw.use rfl hw) (fun x h => h) hd k
      · rw [if_neg hn] at h4
        exact va_gets hx hb hZ hS E.2.1 (E.1 _ (rr_at_mem h4.1)) (fun x h => h) hd k
    · cases hs2
  | ldc idx =>
    simp only [rr_hop] at hs
    obtain ⟨v, hv, hs2⟩ := Option.bind_eq_some_iff.mp hs
    clear hs
    split at hs2
    · subst len
      cases hs2
      obtain ⟨⟨o', idx', v', p'⟩, h1, h2, h3⟩ := rr_find hv
      cases h3
      simp only [Bool.and_eq_true, beq_iff_eq] at h2
      obtain ⟨rfl, rfl⟩ := h2
      exact lv_ldc hx hb E.2.1 (E.1 _ (rr_at_mem (List.all_eq_true.mp rr_okKI_all _ h1))) hd k
    · cases hs2
  | ldc_w idx =>
    simp only [rr_hop] at hs
    obtain ⟨v, hv, hs2⟩ := Option.bind_eq_some_iff.mp hs
    clear hs
    split at hs2
    · subst len
      cases hs2
      obtain ⟨⟨o', idx', v', p'⟩, h1, h2, h3⟩ := rr_find hv
      cases h3
      simp only [Bool.and_eq_true, beq_iff_eq] at h2
      obtain ⟨rfl, rfl⟩ := h2
      exact lv_ldcw hx hb E.2.1 (E.1 _ (rr_at_mem (List.all_eq_true.mp rr_okKI_all _ h1))) hd k
    · cases hs2
  | ldc2_w idx =>
    simp only [rr_hop] at hs
    obtain ⟨v, hv, hs2⟩ := Option.bind_eq_some_iff.mp hs
    clear hs
    split at hs2
    · subst len
      cases hs2
      obtain ⟨⟨o', idx', v', p'⟩, h1, h2, h3⟩ := rr_find hv
      cases h3
      simp only [Bool.and_eq_true, beq_iff_eq] at h2
      obtain ⟨rfl, rfl⟩ := h2
      exact lv_ldc2 hx hb E.2.1 (E.1 _ (rr_at_mem (List.all_eq_true.mp rr_okKJ_all _ h1))) hd k
    · cases hs2
  | _ => cases hs
end RR2

section EL2
variable {A B : rrA} {s : Nat → Int32}
theorem SR.rain (h : SR 1 A B s) {n f j : Nat} (hn : s 0 = nI n) (hn8 : n ≤ 8) (hf : f < n) (hj : j ≤ 99) : SR 1 (u1 A 3 (upd (A 3) f (nI j))) (B) (upd s (15 + 4 * f) (nI j)) := by
  obtain ⟨h1, h2, h3, h4, h5, h6, h7, h8, h9, h10, h11, h12, h13⟩ := h
  refine ⟨?_, h2.cg rfl (fun _ _ => upd_ne' (by omega)), fun g hg => ?_, h4.cg rfl (upd_ne' (by omega)) (fun _ _ => upd_ne' (by omega)), h5.cg rfl (fun _ _ => upd_ne' (by omega)), h6.cg rfl rfl (upd_ne' (by omega)) (upd_ne' (by omega)) (fun _ _ => ⟨upd_ne' (by omega), upd_ne' (by omega)⟩), h7.cg' rfl rfl rfl rfl rfl (upd_ne' (by omega)) (upd_ne' (by omega)) (upd_ne' (by omega)) (upd_ne' (by omega)) (upd_ne' (by omega)), h8.cg rfl (fun _ _ => upd_ne' (by omega)), h9.cg (fun w hw => u1_ne (by omega)) (fun _ _ _ _ => upd_ne' (by omega)), h10.cg rfl rfl (upd_ne' (by omega)) (fun _ _ => upd_ne' (by omega)), h11.cg rfl rfl (upd_ne' (by omega)) (fun _ _ => upd_ne' (by omega)), h12.congr rfl rfl (fun _ _ => upd_ne' (by omega)), h13.congr rfl rfl (fun _ _ => upd_ne' (by omega))⟩
  · obtain ⟨m, m1, m2, m3, m4⟩ := h1
    have hm : m = n := (nI_eq (by omega) (by omega)).mp (m3.symm.trans hn)
    subst hm
    refine ⟨m, m1, m2, by rw [upd_ne' (by omega)]; exact m3, fun g a b => ?_⟩
    show u1 A 3 _ 3 g = 0 ∧ A 4 g = 0 ∧ A 5 g = 0
    rw [u1_eq, upd_ne' (by omega)]
    exact m4 g a b
  · show u1 A 3 _ 3 g = _ ∧ _
    rw [u1_eq]
    by_cases hgf : g = f
    · subst hgf; rw [upd_eq', upd_eq']; exact ⟨rfl, j, hj, rfl⟩
    · rw [upd_ne' hgf, upd_ne' (by omega)]; exact h3 g hg
theorem SR.sky (h : SR 1 A B s) {w f j : Nat} (hw : w < 4) (hf : f < 8) (hj : j ≤ 99) : SR 1 (u1 A (11 + w) (upd (A (11 + w)) f (nI j))) (B) (upd s (56 + 8 * w + f) (nI j)) := by
  obtain ⟨h1, h2, h3, h4, h5, h6, h7, h8, h9, h10, h11, h12, h13⟩ := h
  refine ⟨h1.cg rfl (u1_ne (by omega)) (u1_ne (by omega)) (u1_ne (by omega)) (upd_ne' (by omega)), h2.cg (u1_ne (by omega)) (fun _ _ => upd_ne' (by omega)), h3.cg (u1_ne (by omega)) (fun _ _ => upd_ne' (by omega)), h4.cg (u1_ne (by omega)) (upd_ne' (by omega)) (fun _ _ => upd_ne' (by omega)), h5.cg (u1_ne (by omega)) (fun _ _ => upd_ne' (by omega)), h6.cg rfl (u1_ne (by omega)) (upd_ne' (by omega)) (upd_ne' (by omega)) (fun _ _ => ⟨upd_ne' (by omega), upd_ne' (by omega)⟩), h7.cg' rfl rfl rfl rfl rfl (upd_ne' (by omega)) (upd_ne' (by omega)) (upd_ne' (by omega)) (upd_ne' (by omega)) (upd_ne' (by omega)), h8.cg (u1_ne (by omega)) (fun _ _ => upd_ne' (by omega)), fun v hv g hg => ?_, h10.cg rfl (u1_ne (by omega)) (upd_ne' (by omega)) (fun _ _ => upd_ne' (by omega)), h11.cg rfl (u1_ne (by omega)) (upd_ne' (by omega)) (fun _ _ => upd_ne' (by omega)), h12.congr rfl (u1_ne (by omega)) (fun _ _ => upd_ne' (by omega)), h13.congr rfl (u1_ne (by omega)) (fun _ _ => upd_ne' (by omega))⟩
  have h0 := h9 v hv g hg
  by_cases hvw : v = w
  · subst hvw
    rw [u1_eq]
    by_cases hgf : g = f
    · subst hgf; rw [upd_eq', upd_eq']; exact ⟨rfl, j, hj, rfl⟩
    · rw [upd_ne' hgf, upd_ne' (by omega)]; exact h0
  · rw [u1_ne (by omega), upd_ne' (by omega)]; exact h0
theorem SR.force (h : SR 1 A B s) {l : Nat} {x : Int32} (hl : s 1 = nI l) (hl5 : l ≤ 5) (hx : x = -1 ∨ ∃ k, k < l ∧ x = nI k) : SR 1 (A) (u2 B 1 7 x) (upd s 3 x) := by
  obtain ⟨h1, h2, h3, h4, h5, h6, h7, h8, h9, h10, h11, h12, h13⟩ := h
  refine ⟨h1.cg rfl rfl rfl rfl (upd_ne' (by omega)), h2.cg rfl (fun _ _ => upd_ne' (by omega)), h3.cg rfl (fun _ _ => upd_ne' (by omega)), h4.cg rfl (upd_ne' (by omega)) (fun _ _ => upd_ne' (by omega)), h5.cg rfl (fun _ _ => upd_ne' (by omega)), ?_, ?_, h8.cg rfl (fun _ _ => upd_ne' (by omega)), h9.cg (fun w hw => rfl) (fun _ _ _ _ => upd_ne' (by omega)), h10.cg rfl rfl (upd_ne' (by omega)) (fun _ _ => upd_ne' (by omega)), h11.cg rfl rfl (upd_ne' (by omega)) (fun _ _ => upd_ne' (by omega)), h12.congr rfl rfl (fun _ _ => upd_ne' (by omega)), h13.congr rfl rfl (fun _ _ => upd_ne' (by omega))⟩
  · obtain ⟨m, m1, m2, m3, m4, m5⟩ := h6
    have hm : m = l := (nI_eq (by omega) (by omega)).mp (m3.symm.trans hl)
    subst hm
    refine ⟨m, m1, m2, by rw [upd_ne' (by omega)]; exact m3, fun k hk => ?_, by rw [upd_eq']; exact hx⟩
    rw [upd_ne' (by omega), upd_ne' (by omega)]
    exact m4 k hk
  · refine ⟨?_, ?_, ?_, ?_, ?_⟩
    · rw [u2_eq, upd_eq', upd_eq']
    · rw [u2_eq, upd_ne' (by omega), upd_ne' (by omega)]; exact h7.2.1
    · rw [u2_eq, upd_ne' (by omega), upd_ne' (by omega)]; exact h7.2.2.1
    · rw [u2_eq, upd_ne' (by omega), upd_ne' (by omega)]; exact h7.2.2.2.1
    · rw [u2_eq, upd_ne' (by omega), upd_ne' (by omega)]; exact h7.2.2.2.2
theorem SR.off (h : SR 1 A B s) {j : Nat} (hj : j ≤ 99) : SR 1 (A) (u2 B 1 8 (nI j)) (upd s 4 (nI j)) := by
  obtain ⟨h1, h2, h3, h4, h5, h6, h7, h8, h9, h10, h11, h12, h13⟩ := h
  refine ⟨h1.cg rfl rfl rfl rfl (upd_ne' (by omega)), h2.cg rfl (fun _ _ => upd_ne' (by omega)), h3.cg rfl (fun _ _ => upd_ne' (by omega)), h4.cg rfl (upd_ne' (by omega)) (fun _ _ => upd_ne' (by omega)), h5.cg rfl (fun _ _ => upd_ne' (by omega)), h6.cg rfl rfl (upd_ne' (by omega)) (upd_ne' (by omega)) (fun _ _ => ⟨upd_ne' (by omega), upd_ne' (by omega)⟩), ?_, h8.cg rfl (fun _ _ => upd_ne' (by omega)), h9.cg (fun w hw => rfl) (fun _ _ _ _ => upd_ne' (by omega)), h10.cg rfl rfl (upd_ne' (by omega)) (fun _ _ => upd_ne' (by omega)), h11.cg rfl rfl (upd_ne' (by omega)) (fun _ _ => upd_ne' (by omega)), h12.congr rfl rfl (fun _ _ => upd_ne' (by omega)), h13.congr rfl rfl (fun _ _ => upd_ne' (by omega))⟩
  refine ⟨?_, ?_, ?_, ?_, ?_⟩
  · rw [u2_eq, upd_ne' (by omega), upd_ne' (by omega)]; exact h7.1
  · rw [u2_eq, upd_eq', upd_eq']; exact ⟨rfl, j, hj, rfl⟩
  · rw [u2_eq, upd_ne' (by omega), upd_ne' (by omega)]; exact h7.2.2.1
  · rw [u2_eq, upd_ne' (by omega), upd_ne' (by omega)]; exact h7.2.2.2.1
  · rw [u2_eq, upd_ne' (by omega), upd_ne' (by omega)]; exact h7.2.2.2.2
theorem SR.spread (h : SR 1 A B s) {j : Nat} (hj : j ≤ 99) : SR 1 (A) (u2 B 1 9 (nI j)) (upd s 5 (nI j)) := by
  obtain ⟨h1, h2, h3, h4, h5, h6, h7, h8, h9, h10, h11, h12, h13⟩ := h
  refine ⟨h1.cg rfl rfl rfl rfl (upd_ne' (by omega)), h2.cg rfl (fun _ _ => upd_ne' (by omega)), h3.cg rfl (fun _ _ => upd_ne' (by omega)), h4.cg rfl (upd_ne' (by omega)) (fun _ _ => upd_ne' (by omega)), h5.cg rfl (fun _ _ => upd_ne' (by omega)), h6.cg rfl rfl (upd_ne' (by omega)) (upd_ne' (by omega)) (fun _ _ => ⟨upd_ne' (by omega), upd_ne' (by omega)⟩), ?_, h8.cg rfl (fun _ _ => upd_ne' (by omega)), h9.cg (fun w hw => rfl) (fun _ _ _ _ => upd_ne' (by omega)), h10.cg rfl rfl (upd_ne' (by omega)) (fun _ _ => upd_ne' (by omega)), h11.cg rfl rfl (upd_ne' (by omega)) (fun _ _ => upd_ne' (by omega)), h12.congr rfl rfl (fun _ _ => upd_ne' (by omega)), h13.congr rfl rfl (fun _ _ => upd_ne' (by omega))⟩
  refine ⟨?_, ?_, ?_, ?_, ?_⟩
  · rw [u2_eq, upd_ne' (by omega), upd_ne' (by omega)]; exact h7.1
  · rw [u2_eq, upd_ne' (by omega), upd_ne' (by omega)]; exact h7.2.1
  · rw [u2_eq, upd_eq', upd_eq']; exact ⟨rfl, j, hj, rfl⟩
  · rw [u2_eq, upd_ne' (by omega), upd_ne' (by omega)]; exact h7.2.2.2.1
  · rw [u2_eq, upd_ne' (by omega), upd_ne' (by omega)]; exact h7.2.2.2.2
theorem SR.seed (h : SR 1 A B s) {x : Int32} : SR 1 (A) (u2 B 1 13 x) (upd s 8 x) := by
  obtain ⟨h1, h2, h3, h4, h5, h6, h7, h8, h9, h10, h11, h12, h13⟩ := h
  refine ⟨h1.cg rfl rfl rfl rfl (upd_ne' (by omega)), h2.cg rfl (fun _ _ => upd_ne' (by omega)), h3.cg rfl (fun _ _ => upd_ne' (by omega)), h4.cg rfl (upd_ne' (by omega)) (fun _ _ => upd_ne' (by omega)), h5.cg rfl (fun _ _ => upd_ne' (by omega)), h6.cg rfl rfl (upd_ne' (by omega)) (upd_ne' (by omega)) (fun _ _ => ⟨upd_ne' (by omega), upd_ne' (by omega)⟩), ?_, h8.cg rfl (fun _ _ => upd_ne' (by omega)), h9.cg (fun w hw => rfl) (fun _ _ _ _ => upd_ne' (by omega)), h10.cg rfl rfl (upd_ne' (by omega)) (fun _ _ => upd_ne' (by omega)), h11.cg rfl rfl (upd_ne' (by omega)) (fun _ _ => upd_ne' (by omega)), h12.congr rfl rfl (fun _ _ => upd_ne' (by omega)), h13.congr rfl rfl (fun _ _ => upd_ne' (by omega))⟩
  refine ⟨?_, ?_, ?_, ?_, ?_⟩
  · rw [u2_eq, upd_ne' (by omega), upd_ne' (by omega)]; exact h7.1
  · rw [u2_eq, upd_ne' (by omega), upd_ne' (by omega)]; exact h7.2.1
  · rw [u2_eq, upd_ne' (by omega), upd_ne' (by omega)]; exact h7.2.2.1
  · rw [u2_eq, upd_ne' (by omega), upd_ne' (by omega)]; exact h7.2.2.2.1
  · rw [u2_eq, upd_eq', upd_eq']
theorem SR.come (h : SR 1 A B s) {c : Nat → Nat} {w j : Nat} (hc : ∀ v, v < 4 → s (10 + v) = nI (c v)) (hc2 : c 0 + c 1 + c 2 + c 3 ≤ 16) (hw : w < 4) (hj : (if 0 = w then j else c 0) + (if 1 = w then j else c 1) + (if 2 = w then j else c 2) + (if 3 = w then j else c 3) ≤ 16) : SR 1 (u1 A 9 (upd (A 9) w (nI j))) (B) (upd s (10 + w) (nI j)) := by
  obtain ⟨h1, h2, h3, h4, h5, h6, h7, h8, h9, h10, h11, h12, h13⟩ := h
  refine ⟨h1.cg rfl rfl rfl rfl (upd_ne' (by omega)), h2.cg rfl (fun _ _ => upd_ne' (by omega)), h3.cg rfl (fun _ _ => upd_ne' (by omega)), h4.cg rfl (upd_ne' (by omega)) (fun _ _ => upd_ne' (by omega)), h5.cg rfl (fun _ _ => upd_ne' (by omega)), h6.cg rfl rfl (upd_ne' (by omega)) (upd_ne' (by omega)) (fun _ _ => ⟨upd_ne' (by omega), upd_ne' (by omega)⟩), h7.cg' rfl rfl rfl rfl rfl (upd_ne' (by omega)) (upd_ne' (by omega)) (upd_ne' (by omega)) (upd_ne' (by omega)) (upd_ne' (by omega)), ⟨fun v => if v = w then j else c v, fun v hv => ?_, hj⟩, h9.cg (fun w hw => u1_ne (by omega)) (fun _ _ _ _ => upd_ne' (by omega)), h10.cg rfl rfl (upd_ne' (by omega)) (fun _ _ => upd_ne' (by omega)), h11.cg rfl rfl (upd_ne' (by omega)) (fun _ _ => upd_ne' (by omega)), h12.congr rfl rfl (fun _ _ => upd_ne' (by omega)), h13.congr rfl rfl (fun _ _ => upd_ne' (by omega))⟩
  obtain ⟨e, e1, e2⟩ := h8
  show u1 A 9 _ 9 v = _ ∧ _
  rw [u1_eq]
  by_cases hvw : v = w
  · subst hvw
    show _ = nI (if v = v then j else c v) ∧ _ = nI (if v = v then j else c v)
    rw [upd_eq', upd_eq', if_pos rfl]; exact ⟨rfl, rfl⟩
  · show _ = nI (if v = w then j else c v) ∧ _ = nI (if v = w then j else c v)
    rw [upd_ne' hvw, upd_ne' (by omega), if_neg hvw]
    exact ⟨((e1 v hv).1.trans (e1 v hv).2.symm).trans (hc v hv), hc v hv⟩
theorem SR.lawAdd (h : SR 1 A B s) {l kd m : Nat} (hl : s 1 = nI l) (hl5 : l < 5) (hk : kd ≤ 6) (hm9 : m ≤ 9) : SR 1 (u1 A 8 (upd (A 8) l (nI (10 * kd + m)))) (u2 B 7 1 (nI (l + 1))) (upd (upd (upd s (46 + 2 * l) (nI kd)) (47 + 2 * l) (nI m)) 1 (nI (l + 1))) := by
  obtain ⟨h1, h2, h3, h4, h5, h6, h7, h8, h9, h10, h11, h12, h13⟩ := h
  refine ⟨h1.cg rfl rfl rfl rfl (by rw [upd_ne' (by omega), upd_ne' (by omega), upd_ne' (by omega)]), h2.cg rfl (fun _ _ => by rw [upd_ne' (by omega), upd_ne' (by omega), upd_ne' (by omega)]), h3.cg rfl (fun _ _ => by rw [upd_ne' (by omega), upd_ne' (by omega), upd_ne' (by omega)]), h4.cg rfl (by rw [upd_ne' (by omega), upd_ne' (by omega), upd_ne' (by omega)]) (fun _ _ => by rw [upd_ne' (by omega), upd_ne' (by omega), upd_ne' (by omega)]), h5.cg rfl (fun _ _ => by rw [upd_ne' (by omega), upd_ne' (by omega), upd_ne' (by omega)]), ?_, h7.cg' rfl rfl rfl rfl rfl (by rw [upd_ne' (by omega), upd_ne' (by omega), upd_ne' (by omega)]) (by rw [upd_ne' (by omega), upd_ne' (by omega), upd_ne' (by omega)]) (by rw [upd_ne' (by omega), upd_ne' (by omega), upd_ne' (by omega)]) (by rw [upd_ne' (by omega), upd_ne' (by omega), upd_ne' (by omega)]) (by rw [upd_ne' (by omega), upd_ne' (by omega), upd_ne' (by omega)]), h8.cg rfl (fun _ _ => by rw [upd_ne' (by omega), upd_ne' (by omega), upd_ne' (by omega)]), h9.cg (fun w hw => u1_ne (by omega)) (fun _ _ _ _ => by rw [upd_ne' (by omega), upd_ne' (by omega), upd_ne' (by omega)]), h10.cg rfl rfl (by rw [upd_ne' (by omega), upd_ne' (by omega), upd_ne' (by omega)]) (fun _ _ => by rw [upd_ne' (by omega), upd_ne' (by omega), upd_ne' (by omega)]), h11.cg rfl rfl (by rw [upd_ne' (by omega), upd_ne' (by omega), upd_ne' (by omega)]) (fun _ _ => by rw [upd_ne' (by omega), upd_ne' (by omega), upd_ne' (by omega)]), h12.congr rfl rfl (fun _ _ => by rw [upd_ne' (by omega), upd_ne' (by omega), upd_ne' (by omega)]), h13.congr rfl rfl (fun _ _ => by rw [upd_ne' (by omega), upd_ne' (by omega), upd_ne' (by omega)])⟩
  obtain ⟨e, m1, m2, m3, m4, m5⟩ := h6
  have he : e = l := (nI_eq (by omega) (by omega)).mp (m3.symm.trans hl)
  subst he
  refine ⟨e + 1, by omega, by show u2 B 7 1 _ 7 1 = _; rw [u2_eq, upd_eq'], upd_eq', fun k hk2 => ?_, ?_⟩
  · show ∃ kd m : Nat, _ ∧ _ ∧ u1 A 8 _ 8 k = _ ∧ _ ∧ _
    rw [u1_eq]
    by_cases hke : k = e
    · subst hke
      refine ⟨kd, m, hk, hm9, upd_eq', ?_, ?_⟩
      · rw [upd_ne' (by omega), upd_ne' (by omega), upd_eq']
      · rw [upd_ne' (by omega), upd_eq']
    · obtain ⟨a, b, c1, c2, c3, c4, c5⟩ := m4 k (by omega)
      refine ⟨a, b, c1, c2, by rw [upd_ne' hke]; exact c3, ?_, ?_⟩
      · rw [upd_ne' (by omega), upd_ne' (by omega), upd_ne' (by omega)]; exact c4
      · rw [upd_ne' (by omega), upd_ne' (by omega), upd_ne' (by omega)]; exact c5
  · rw [upd_ne' (by omega), upd_ne' (by omega), upd_ne' (by omega)]
    rcases m5 with z | ⟨k, k1, k2⟩
    · exact Or.inl z
    · exact Or.inr ⟨k, by omega, k2⟩
theorem SR.lawSet (h : SR 1 A B s) {l e kd m : Nat} (hl : s 1 = nI l) (hl5 : l ≤ 5) (he2 : e < l) (hk : kd ≤ 6) (hm9 : m ≤ 9) : SR 1 (u1 A 8 (upd (A 8) e (nI (10 * kd + m)))) (B) (upd (upd s (46 + 2 * e) (nI kd)) (47 + 2 * e) (nI m)) := by
  obtain ⟨h1, h2, h3, h4, h5, h6, h7, h8, h9, h10, h11, h12, h13⟩ := h
  refine ⟨h1.cg rfl rfl rfl rfl (by rw [upd_ne' (by omega), upd_ne' (by omega)]), h2.cg rfl (fun _ _ => by rw [upd_ne' (by omega), upd_ne' (by omega)]), h3.cg rfl (fun _ _ => by rw [upd_ne' (by omega), upd_ne' (by omega)]), h4.cg rfl (by rw [upd_ne' (by omega), upd_ne' (by omega)]) (fun _ _ => by rw [upd_ne' (by omega), upd_ne' (by omega)]), h5.cg rfl (fun _ _ => by rw [upd_ne' (by omega), upd_ne' (by omega)]), ?_, h7.cg' rfl rfl rfl rfl rfl (by rw [upd_ne' (by omega), upd_ne' (by omega)]) (by rw [upd_ne' (by omega), upd_ne' (by omega)]) (by rw [upd_ne' (by omega), upd_ne' (by omega)]) (by rw [upd_ne' (by omega), upd_ne' (by omega)]) (by rw [upd_ne' (by omega), upd_ne' (by omega)]), h8.cg rfl (fun _ _ => by rw [upd_ne' (by omega), upd_ne' (by omega)]), h9.cg (fun w hw => u1_ne (by omega)) (fun _ _ _ _ => by rw [upd_ne' (by omega), upd_ne' (by omega)]), h10.cg rfl rfl (by rw [upd_ne' (by omega), upd_ne' (by omega)]) (fun _ _ => by rw [upd_ne' (by omega), upd_ne' (by omega)]), h11.cg rfl rfl (by rw [upd_ne' (by omega), upd_ne' (by omega)]) (fun _ _ => by rw [upd_ne' (by omega), upd_ne' (by omega)]), h12.congr rfl rfl (fun _ _ => by rw [upd_ne' (by omega), upd_ne' (by omega)]), h13.congr rfl rfl (fun _ _ => by rw [upd_ne' (by omega), upd_ne' (by omega)])⟩
  obtain ⟨g, m1, m2, m3, m4, m5⟩ := h6
  have he : g = l := (nI_eq (by omega) (by omega)).mp (m3.symm.trans hl)
  subst he
  refine ⟨g, m1, m2, by rw [upd_ne' (by omega), upd_ne' (by omega)]; exact m3, fun k hk2 => ?_, by rw [upd_ne' (by omega), upd_ne' (by omega)]; exact m5⟩
  show ∃ kd m : Nat, _ ∧ _ ∧ u1 A 8 _ 8 k = _ ∧ _ ∧ _
  rw [u1_eq]
  by_cases hke : k = e
  · subst hke
    refine ⟨kd, m, hk, hm9, upd_eq', ?_, ?_⟩
    · rw [upd_ne' (by omega), upd_eq']
    · rw [upd_eq']
  · obtain ⟨a, b, c1, c2, c3, c4, c5⟩ := m4 k (by omega)
    refine ⟨a, b, c1, c2, by rw [upd_ne' hke]; exact c3, ?_, ?_⟩
    · rw [upd_ne' (by omega), upd_ne' (by omega)]; exact c4
    · rw [upd_ne' (by omega), upd_ne' (by omega)]; exact c5
theorem SR.tapeSize (h : SR 1 A B s) {t : Nat} (ht : t ≤ 60) (h0 : ∀ k, k < t → A 16 k = s (338 + k) ∧ ∃ j, j ≤ 255 ∧ s (338 + k) = nI j) : SR 1 (A) (u2 B 15 1 (nI t)) (upd s 6 (nI t)) := by
  obtain ⟨h1, h2, h3, h4, h5, h6, h7, h8, h9, h10, h11, h12, h13⟩ := h
  refine ⟨h1.cg rfl rfl rfl rfl (upd_ne' (by omega)), h2.cg rfl (fun _ _ => upd_ne' (by omega)), h3.cg rfl (fun _ _ => upd_ne' (by omega)), h4.cg rfl (upd_ne' (by omega)) (fun _ _ => upd_ne' (by omega)), h5.cg rfl (fun _ _ => upd_ne' (by omega)), h6.cg rfl rfl (upd_ne' (by omega)) (upd_ne' (by omega)) (fun _ _ => ⟨upd_ne' (by omega), upd_ne' (by omega)⟩), h7.cg' rfl rfl rfl rfl rfl (upd_ne' (by omega)) (upd_ne' (by omega)) (upd_ne' (by omega)) (upd_ne' (by omega)) (upd_ne' (by omega)), h8.cg rfl (fun _ _ => upd_ne' (by omega)), h9.cg (fun w hw => rfl) (fun _ _ _ _ => upd_ne' (by omega)), ?_, h11.cg rfl rfl (upd_ne' (by omega)) (fun _ _ => upd_ne' (by omega)), h12.congr rfl rfl (fun _ _ => upd_ne' (by omega)), h13.congr rfl rfl (fun _ _ => upd_ne' (by omega))⟩
  refine ⟨t, ht, by show u2 B 15 1 _ 15 1 = _; rw [u2_eq, upd_eq'], upd_eq', fun k hk => ?_⟩
  rw [upd_ne' (by omega)]
  exact h0 k hk
theorem SR.tapeAdd (h : SR 1 A B s) {t j : Nat} (ht : s 6 = nI t) (ht6 : t < 60) (hj : j ≤ 255) : SR 1 (u1 A 16 (upd (A 16) t (nI j))) (u2 B 15 1 (nI (t + 1))) (upd (upd s (338 + t) (nI j)) 6 (nI (t + 1))) := by
  obtain ⟨h1, h2, h3, h4, h5, h6, h7, h8, h9, h10, h11, h12, h13⟩ := h
  refine ⟨h1.cg rfl rfl rfl rfl (by rw [upd_ne' (by omega), upd_ne' (by omega)]), h2.cg rfl (fun _ _ => by rw [upd_ne' (by omega), upd_ne' (by omega)]), h3.cg rfl (fun _ _ => by rw [upd_ne' (by omega), upd_ne' (by omega)]), h4.cg rfl (by rw [upd_ne' (by omega), upd_ne' (by omega)]) (fun _ _ => by rw [upd_ne' (by omega), upd_ne' (by omega)]), h5.cg rfl (fun _ _ => by rw [upd_ne' (by omega), upd_ne' (by omega)]), h6.cg rfl rfl (by rw [upd_ne' (by omega), upd_ne' (by omega)]) (by rw [upd_ne' (by omega), upd_ne' (by omega)]) (fun _ _ => ⟨by rw [upd_ne' (by omega), upd_ne' (by omega)], by rw [upd_ne' (by omega), upd_ne' (by omega)]⟩), h7.cg' rfl rfl rfl rfl rfl (by rw [upd_ne' (by omega), upd_ne' (by omega)]) (by rw [upd_ne' (by omega), upd_ne' (by omega)]) (by rw [upd_ne' (by omega), upd_ne' (by omega)]) (by rw [upd_ne' (by omega), upd_ne' (by omega)]) (by rw [upd_ne' (by omega), upd_ne' (by omega)]), h8.cg rfl (fun _ _ => by rw [upd_ne' (by omega), upd_ne' (by omega)]), h9.cg (fun w hw => u1_ne (by omega)) (fun _ _ _ _ => by rw [upd_ne' (by omega), upd_ne' (by omega)]), ?_, h11.cg rfl rfl (by rw [upd_ne' (by omega), upd_ne' (by omega)]) (fun _ _ => by rw [upd_ne' (by omega), upd_ne' (by omega)]), h12.congr rfl rfl (fun _ _ => by rw [upd_ne' (by omega), upd_ne' (by omega)]), h13.congr rfl rfl (fun _ _ => by rw [upd_ne' (by omega), upd_ne' (by omega)])⟩
  obtain ⟨g, m1, m2, m3, m4⟩ := h10
  have he : g = t := (nI_eq (by omega) (by omega)).mp (m3.symm.trans ht)
  subst he
  refine ⟨g + 1, by omega, by show u2 B 15 1 _ 15 1 = _; rw [u2_eq, upd_eq'], upd_eq', fun k hk => ?_⟩
  show u1 A 16 _ 16 k = _ ∧ _
  rw [u1_eq, upd_ne' (k := 6) (by omega)]
  by_cases hke : k = g
  · subst hke; rw [upd_eq', upd_eq']; exact ⟨rfl, j, hj, rfl⟩
  · rw [upd_ne' hke, upd_ne' (by omega)]; exact m4 k (by omega)
theorem SR.waitAdd (h : SR 1 A B s) {t : Nat} {x : Int32} (ht : s 7 = nI t) (ht6 : t < 24) : SR 1 (u1 A 18 (upd (A 18) t x)) (u2 B 17 1 (nI (t + 1))) (upd (upd s (398 + t) x) 7 (nI (t + 1))) := by
  obtain ⟨h1, h2, h3, h4, h5, h6, h7, h8, h9, h10, h11, h12, h13⟩ := h
  refine ⟨h1.cg rfl rfl rfl rfl (by rw [upd_ne' (by omega), upd_ne' (by omega)]), h2.cg rfl (fun _ _ => by rw [upd_ne' (by omega), upd_ne' (by omega)]), h3.cg rfl (fun _ _ => by rw [upd_ne' (by omega), upd_ne' (by omega)]), h4.cg rfl (by rw [upd_ne' (by omega), upd_ne' (by omega)]) (fun _ _ => by rw [upd_ne' (by omega), upd_ne' (by omega)]), h5.cg rfl (fun _ _ => by rw [upd_ne' (by omega), upd_ne' (by omega)]), h6.cg rfl rfl (by rw [upd_ne' (by omega), upd_ne' (by omega)]) (by rw [upd_ne' (by omega), upd_ne' (by omega)]) (fun _ _ => ⟨by rw [upd_ne' (by omega), upd_ne' (by omega)], by rw [upd_ne' (by omega), upd_ne' (by omega)]⟩), h7.cg' rfl rfl rfl rfl rfl (by rw [upd_ne' (by omega), upd_ne' (by omega)]) (by rw [upd_ne' (by omega), upd_ne' (by omega)]) (by rw [upd_ne' (by omega), upd_ne' (by omega)]) (by rw [upd_ne' (by omega), upd_ne' (by omega)]) (by rw [upd_ne' (by omega), upd_ne' (by omega)]), h8.cg rfl (fun _ _ => by rw [upd_ne' (by omega), upd_ne' (by omega)]), h9.cg (fun w hw => u1_ne (by omega)) (fun _ _ _ _ => by rw [upd_ne' (by omega), upd_ne' (by omega)]), h10.cg rfl rfl (by rw [upd_ne' (by omega), upd_ne' (by omega)]) (fun _ _ => by rw [upd_ne' (by omega), upd_ne' (by omega)]), ?_, h12.congr rfl rfl (fun _ _ => by rw [upd_ne' (by omega), upd_ne' (by omega)]), h13.congr rfl rfl (fun _ _ => by rw [upd_ne' (by omega), upd_ne' (by omega)])⟩
  obtain ⟨g, m1, m2, m3, m4⟩ := h11
  have he : g = t := (nI_eq (by omega) (by omega)).mp (m3.symm.trans ht)
  subst he
  refine ⟨g + 1, by omega, by show u2 B 17 1 _ 17 1 = _; rw [u2_eq, upd_eq'], upd_eq', fun k hk => ?_⟩
  show u1 A 18 _ 18 k = _
  rw [u1_eq, upd_ne' (k := 7) (by omega)]
  by_cases hke : k = g
  · subst hke; rw [upd_eq', upd_eq']
  · rw [upd_ne' hke, upd_ne' (by omega)]; exact m4 k (by omega)
theorem SR.waitNone (h : SR 1 A B s)  : SR 1 (A) (u2 B 17 1 (nI 0)) (upd s 7 (nI 0)) := by
  obtain ⟨h1, h2, h3, h4, h5, h6, h7, h8, h9, h10, h11, h12, h13⟩ := h
  refine ⟨h1.cg rfl rfl rfl rfl (upd_ne' (by omega)), h2.cg rfl (fun _ _ => upd_ne' (by omega)), h3.cg rfl (fun _ _ => upd_ne' (by omega)), h4.cg rfl (upd_ne' (by omega)) (fun _ _ => upd_ne' (by omega)), h5.cg rfl (fun _ _ => upd_ne' (by omega)), h6.cg rfl rfl (upd_ne' (by omega)) (upd_ne' (by omega)) (fun _ _ => ⟨upd_ne' (by omega), upd_ne' (by omega)⟩), h7.cg' rfl rfl rfl rfl rfl (upd_ne' (by omega)) (upd_ne' (by omega)) (upd_ne' (by omega)) (upd_ne' (by omega)) (upd_ne' (by omega)), h8.cg rfl (fun _ _ => upd_ne' (by omega)), h9.cg (fun w hw => rfl) (fun _ _ _ _ => upd_ne' (by omega)), h10.cg rfl rfl (upd_ne' (by omega)) (fun _ _ => upd_ne' (by omega)), ⟨0, by omega, rfl, upd_eq', fun k hk => by omega⟩, h12.congr rfl rfl (fun _ _ => upd_ne' (by omega)), h13.congr rfl rfl (fun _ _ => upd_ne' (by omega))⟩
theorem SR.duesNone (h : SR 1 A B s)  : SR 1 (A) (u2 B 19 2 (nI 0)) (upd s 88 (nI 0)) := by
  obtain ⟨h1, h2, h3, h4, h5, h6, h7, h8, h9, h10, h11, h12, h13⟩ := h
  refine ⟨h1.cg rfl rfl rfl rfl (upd_ne' (by omega)), h2.cg rfl (fun _ _ => upd_ne' (by omega)), h3.cg rfl (fun _ _ => upd_ne' (by omega)), h4.cg rfl (upd_ne' (by omega)) (fun _ _ => upd_ne' (by omega)), h5.cg rfl (fun _ _ => upd_ne' (by omega)), h6.cg rfl rfl (upd_ne' (by omega)) (upd_ne' (by omega)) (fun _ _ => ⟨upd_ne' (by omega), upd_ne' (by omega)⟩), h7.cg' rfl rfl rfl rfl rfl (upd_ne' (by omega)) (upd_ne' (by omega)) (upd_ne' (by omega)) (upd_ne' (by omega)) (upd_ne' (by omega)), h8.cg rfl (fun _ _ => upd_ne' (by omega)), h9.cg (fun w hw => rfl) (fun _ _ _ _ => upd_ne' (by omega)), h10.cg rfl rfl (upd_ne' (by omega)) (fun _ _ => upd_ne' (by omega)), h11.cg rfl rfl (upd_ne' (by omega)) (fun _ _ => upd_ne' (by omega)), ⟨0, fun _ => 0, fun _ => 0, by omega, rfl, upd_eq', fun k hk => by omega, Or.inl rfl⟩, h13.congr rfl rfl (fun _ _ => upd_ne' (by omega))⟩
theorem SR.cropNone (h : SR 1 A B s)  : SR 1 (A) (u2 B 22 2 (nI 0)) (upd s 213 (nI 0)) := by
  obtain ⟨h1, h2, h3, h4, h5, h6, h7, h8, h9, h10, h11, h12, h13⟩ := h
  refine ⟨h1.cg rfl rfl rfl rfl (upd_ne' (by omega)), h2.cg rfl (fun _ _ => upd_ne' (by omega)), h3.cg rfl (fun _ _ => upd_ne' (by omega)), h4.cg rfl (upd_ne' (by omega)) (fun _ _ => upd_ne' (by omega)), h5.cg rfl (fun _ _ => upd_ne' (by omega)), h6.cg rfl rfl (upd_ne' (by omega)) (upd_ne' (by omega)) (fun _ _ => ⟨upd_ne' (by omega), upd_ne' (by omega)⟩), h7.cg' rfl rfl rfl rfl rfl (upd_ne' (by omega)) (upd_ne' (by omega)) (upd_ne' (by omega)) (upd_ne' (by omega)) (upd_ne' (by omega)), h8.cg rfl (fun _ _ => upd_ne' (by omega)), h9.cg (fun w hw => rfl) (fun _ _ _ _ => upd_ne' (by omega)), h10.cg rfl rfl (upd_ne' (by omega)) (fun _ _ => upd_ne' (by omega)), h11.cg rfl rfl (upd_ne' (by omega)) (fun _ _ => upd_ne' (by omega)), h12.congr rfl rfl (fun _ _ => upd_ne' (by omega)), ⟨0, fun _ => 0, fun _ => 0, by omega, rfl, upd_eq', fun k hk => by omega, Or.inl rfl⟩⟩
end EL2

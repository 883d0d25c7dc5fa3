/-! ## by hand: book of the reference (wip/p2/gen9c.py) -/
set_option maxRecDepth 100000 in
theorem xs_129_f2ad130c_8f13 {w : cm_W} (hG : sv_w sg w) : ∃ w' : cm_W, cm_C 2 129 [.inr (.inr (some 184))] w (none, w') ∧ sv_w sg w' ∧ (∀ k i, ¬ ((k = 184 ∧ i = 4) ∨ (k = 184 ∧ 11 ≤ i ∧ i ≤ 14) ∨ (k = 184 ∧ i = 17)) → w'.1 k i = w.1 k i ∧ w'.2 k i = w.2 k i) ∧ ((0 ≤ (w'.1 184 4).toInt ∧ (w'.1 184 4).toInt ≤ 940 ∧ (w.1 184 4).toInt + 1 ≤ (w'.1 184 4).toInt + 1 ∧ (w'.1 184 11).toInt = 4) ∨ (0 ≤ (w'.1 184 4).toInt ∧ (w'.1 184 4).toInt ≤ 940 ∧ (w.1 184 4).toInt + 1 ≤ (w'.1 184 4).toInt + 1 ∧ (w'.1 184 11).toInt = 0) ∨ (1 ≤ (w'.1 184 4).toInt ∧ (w'.1 184 4).toInt ≤ 940 ∧ (w.1 184 4).toInt + 2 ≤ (w'.1 184 4).toInt + 1 ∧ (w'.1 184 11).toInt = 3) ∨ (1 ≤ (w'.1 184 4).toInt ∧ (w'.1 184 4).toInt ≤ 940 ∧ (w.1 184 4).toInt + 2 ≤ (w'.1 184 4).toInt + 1 ∧ (w'.1 184 11).toInt = 4) ∨ (0 ≤ (w'.1 184 4).toInt ∧ (w'.1 184 4).toInt ≤ 940 ∧ (w.1 184 4).toInt + 1 ≤ (w'.1 184 4).toInt + 1 ∧ (w'.1 184 11).toInt = 1) ∨ (0 ≤ (w'.1 184 4).toInt ∧ (w'.1 184 4).toInt ≤ 940 ∧ (w.1 184 4).toInt + 1 ≤ (w'.1 184 4).toInt + 1 ∧ (w'.1 184 11).toInt = 2)) := by
  obtain ⟨r, w', hC, hG', hF, q, hq, hr, hp, hs⟩ := wk_use (d := 2) sm_129_f2ad130c_ok (by decide) (as := [.inr (.inr (some 184))]) (w := w) ⟨rfl, trivial⟩ (fun f hf => by
    rcases List.mem_cons.mp hf with rfl | hf
    · exact ⟨(by have h9 := hG 184 4; rw [xg_efb20a0a] at h9; exact h9), .inr (Nat.le_refl _), .inl rfl⟩
    rcases List.mem_cons.mp hf with rfl | hf
    · exact ⟨(by have h9 := hG 184 11; rw [xg_d6f571af] at h9; exact h9), .inl rfl, .inl rfl⟩
    rcases List.mem_cons.mp hf with rfl | hf
    · exact ⟨(sv_in_top _), .inl rfl, .inl rfl⟩
    cases hf) hG
  have hfr : ∀ k i, ¬ ((k = 184 ∧ i = 4) ∨ (k = 184 ∧ 11 ≤ i ∧ i ≤ 14) ∨ (k = 184 ∧ i = 17)) → w'.1 k i = w.1 k i ∧ w'.2 k i = w.2 k i := fun k i hki => hF k i (fun ⟨r, z, z1, z2, z3⟩ => by
    simp only [sm_129_f2ad130c, List.mem_cons, List.not_mem_nil, or_false] at z
    rcases z with rfl | rfl | rfl
    all_goals (simp only at z1 z2 z3; omega))
  simp only [sm_129_f2ad130c, List.mem_cons, List.not_mem_nil, or_false] at hq
  rcases hq with rfl | rfl | rfl | rfl | rfl | rfl
  · obtain rfl : r = none := by
      match r, hr with
      | none, _ => rfl
    have s0 := hs _ List.mem_cons_self
    have t0 := hb_in (lo := 2147483648) (hi := 2147484588) (x := w'.1 184 4) s0.1
    have u0 : ia_E (w.1 184 4) + 1 ≤ ia_E (w'.1 184 4) + 1 := s0.2.1.resolve_left (by decide)
    have v0 := hb_E (w.1 184 4)
    have y0 := hb_E (w'.1 184 4)
    have s1 := hs _ (List.mem_cons_of_mem _ List.mem_cons_self)
    have t1 := hb_in (lo := 2147483652) (hi := 2147483652) (x := w'.1 184 11) s1.1
    exact ⟨w', hC, hG', hfr, Or.inl ⟨by omega, by omega, by omega, by omega⟩⟩
  · obtain rfl : r = none := by
      match r, hr with
      | none, _ => rfl
    have s0 := hs _ List.mem_cons_self
    have t0 := hb_in (lo := 2147483648) (hi := 2147484588) (x := w'.1 184 4) s0.1
    have u0 : ia_E (w.1 184 4) + 1 ≤ ia_E (w'.1 184 4) + 1 := s0.2.1.resolve_left (by decide)
    have v0 := hb_E (w.1 184 4)
    have y0 := hb_E (w'.1 184 4)
    have s1 := hs _ (List.mem_cons_of_mem _ List.mem_cons_self)
    have t1 := hb_in (lo := 2147483648) (hi := 2147483648) (x := w'.1 184 11) s1.1
    exact ⟨w', hC, hG', hfr, Or.inr (Or.inl ⟨by omega, by omega, by omega, by omega⟩)⟩
  · obtain rfl : r = none := by
      match r, hr with
      | none, _ => rfl
    have s0 := hs _ List.mem_cons_self
    have t0 := hb_in (lo := 2147483649) (hi := 2147484588) (x := w'.1 184 4) s0.1
    have u0 : ia_E (w.1 184 4) + 2 ≤ ia_E (w'.1 184 4) + 1 := s0.2.1.resolve_left (by decide)
    have v0 := hb_E (w.1 184 4)
    have y0 := hb_E (w'.1 184 4)
    have s1 := hs _ (List.mem_cons_of_mem _ List.mem_cons_self)
    have t1 := hb_in (lo := 2147483651) (hi := 2147483651) (x := w'.1 184 11) s1.1
    exact ⟨w', hC, hG', hfr, Or.inr (Or.inr (Or.inl ⟨by omega, by omega, by omega, by omega⟩))⟩
  · obtain rfl : r = none := by
      match r, hr with
      | none, _ => rfl
    have s0 := hs _ List.mem_cons_self
    have t0 := hb_in (lo := 2147483649) (hi := 2147484588) (x := w'.1 184 4) s0.1
    have u0 : ia_E (w.1 184 4) + 2 ≤ ia_E (w'.1 184 4) + 1 := s0.2.1.resolve_left (by decide)
    have v0 := hb_E (w.1 184 4)
    have y0 := hb_E (w'.1 184 4)
    have s1 := hs _ (List.mem_cons_of_mem _ List.mem_cons_self)
    have t1 := hb_in (lo := 2147483652) (hi := 2147483652) (x := w'.1 184 11) s1.1
    exact ⟨w', hC, hG', hfr, Or.inr (Or.inr (Or.inr (Or.inl ⟨by omega, by omega, by omega, by omega⟩)))⟩
  · obtain rfl : r = none := by
      match r, hr with
      | none, _ => rfl
    have s0 := hs _ List.mem_cons_self
    have t0 := hb_in (lo := 2147483648) (hi := 2147484588) (x := w'.1 184 4) s0.1
    have u0 : ia_E (w.1 184 4) + 1 ≤ ia_E (w'.1 184 4) + 1 := s0.2.1.resolve_left (by decide)
    have v0 := hb_E (w.1 184 4)
    have y0 := hb_E (w'.1 184 4)
    have s1 := hs _ (List.mem_cons_of_mem _ List.mem_cons_self)
    have t1 := hb_in (lo := 2147483649) (hi := 2147483649) (x := w'.1 184 11) s1.1
    exact ⟨w', hC, hG', hfr, Or.inr (Or.inr (Or.inr (Or.inr (Or.inl ⟨by omega, by omega, by omega, by omega⟩))))⟩
  · obtain rfl : r = none := by
      match r, hr with
      | none, _ => rfl
    have s0 := hs _ List.mem_cons_self
    have t0 := hb_in (lo := 2147483648) (hi := 2147484588) (x := w'.1 184 4) s0.1
    have u0 : ia_E (w.1 184 4) + 1 ≤ ia_E (w'.1 184 4) + 1 := s0.2.1.resolve_left (by decide)
    have v0 := hb_E (w.1 184 4)
    have y0 := hb_E (w'.1 184 4)
    have s1 := hs _ (List.mem_cons_of_mem _ List.mem_cons_self)
    have t1 := hb_in (lo := 2147483650) (hi := 2147483650) (x := w'.1 184 11) s1.1
    exact ⟨w', hC, hG', hfr, Or.inr (Or.inr (Or.inr (Or.inr (Or.inr (⟨by omega, by omega, by omega, by omega⟩)))))⟩
set_option maxRecDepth 100000 in
theorem xs_286_22cf966a_3442 {a1 : Int32} {a2 : Int32} {w : cm_W} (h1 : 10 ≤ a1.toInt ∧ a1.toInt ≤ 10) (h2 : 0 ≤ a2.toInt ∧ a2.toInt ≤ 6) (hG : sv_w sg w) : ∃ x : Int32, ∃ w' : cm_W, cm_C 3 286 [.inr (.inr (some 184)), .inl a1, .inl a2] w (some (.inl x), w') ∧ sv_w sg w' ∧ (∀ k i, ¬ ((k = 184 ∧ i = 4) ∨ (k = 184 ∧ 11 ≤ i ∧ i ≤ 18)) → w'.1 k i = w.1 k i ∧ w'.2 k i = w.2 k i) ∧ ((x.toInt = 1 ∧ 1 ≤ a2.toInt ∧ a2.toInt ≤ 6 ∧ 0 ≤ (w'.1 184 4).toInt ∧ (w'.1 184 4).toInt ≤ 940 ∧ (w.1 184 4).toInt + 1 ≤ (w'.1 184 4).toInt + 1 ∧ (w'.1 184 11).toInt = 2 ∧ 0 ≤ (w'.1 184 18).toInt ∧ (w'.1 184 18).toInt ≤ 5) ∨ (x.toInt = 1 ∧ 1 ≤ a2.toInt ∧ a2.toInt ≤ 6 ∧ 0 ≤ (w'.1 184 4).toInt ∧ (w'.1 184 4).toInt ≤ 940 ∧ (w.1 184 4).toInt + 1 ≤ (w'.1 184 4).toInt + 1 ∧ (w'.1 184 11).toInt = 1 ∧ 0 ≤ (w'.1 184 18).toInt ∧ (w'.1 184 18).toInt ≤ 5) ∨ (x.toInt = 1 ∧ 1 ≤ a2.toInt ∧ a2.toInt ≤ 6 ∧ 1 ≤ (w'.1 184 4).toInt ∧ (w'.1 184 4).toInt ≤ 940 ∧ (w.1 184 4).toInt + 2 ≤ (w'.1 184 4).toInt + 1 ∧ (w'.1 184 11).toInt = 4 ∧ 0 ≤ (w'.1 184 18).toInt ∧ (w'.1 184 18).toInt ≤ 5) ∨ (x.toInt = 1 ∧ 1 ≤ a2.toInt ∧ a2.toInt ≤ 6 ∧ 1 ≤ (w'.1 184 4).toInt ∧ (w'.1 184 4).toInt ≤ 940 ∧ (w.1 184 4).toInt + 2 ≤ (w'.1 184 4).toInt + 1 ∧ (w'.1 184 11).toInt = 3 ∧ 0 ≤ (w'.1 184 18).toInt ∧ (w'.1 184 18).toInt ≤ 5) ∨ (x.toInt = 1 ∧ 1 ≤ a2.toInt ∧ a2.toInt ≤ 6 ∧ 0 ≤ (w'.1 184 4).toInt ∧ (w'.1 184 4).toInt ≤ 940 ∧ (w.1 184 4).toInt + 1 ≤ (w'.1 184 4).toInt + 1 ∧ (w'.1 184 11).toInt = 0 ∧ 0 ≤ (w'.1 184 18).toInt ∧ (w'.1 184 18).toInt ≤ 5) ∨ (x.toInt = 1 ∧ 1 ≤ a2.toInt ∧ a2.toInt ≤ 6 ∧ 0 ≤ (w'.1 184 4).toInt ∧ (w'.1 184 4).toInt ≤ 940 ∧ (w.1 184 4).toInt + 1 ≤ (w'.1 184 4).toInt + 1 ∧ (w'.1 184 11).toInt = 4 ∧ 0 ≤ (w'.1 184 18).toInt ∧ (w'.1 184 18).toInt ≤ 5) ∨ (x.toInt = 0 ∧ 0 ≤ (w'.1 184 4).toInt ∧ (w'.1 184 4).toInt ≤ 940 ∧ (w.1 184 4).toInt + 1 ≤ (w'.1 184 4).toInt + 1 ∧ (w'.1 184 11).toInt = 1 ∧ (w'.1 184 18).toInt = (-1)) ∨ (x.toInt = 0 ∧ 0 ≤ (w'.1 184 4).toInt ∧ (w'.1 184 4).toInt ≤ 940 ∧ (w.1 184 4).toInt + 1 ≤ (w'.1 184 4).toInt + 1)) := by
  obtain ⟨r, w', hC, hG', hF, q, hq, hr, hp, hs⟩ := wk_use (d := 3) sm_286_22cf966a_ok (by decide) (as := [.inr (.inr (some 184)), .inl a1, .inl a2]) (w := w) ⟨rfl, hb_mk (lo := 2147483658) (hi := 2147483658) (by have := h1.1; omega) (by have := h1.2; omega), hb_mk (lo := 2147483648) (hi := 2147483654) (by have := h2.1; omega) (by have := h2.2; omega), trivial⟩ (fun f hf => by
    rcases List.mem_cons.mp hf with rfl | hf
    · exact ⟨(by have h9 := hG 184 4; rw [xg_efb20a0a] at h9; exact h9), .inr (Nat.le_refl _), .inl rfl⟩
    rcases List.mem_cons.mp hf with rfl | hf
    · exact ⟨(by have h9 := hG 184 11; rw [xg_d6f571af] at h9; exact h9), .inl rfl, .inl rfl⟩
    rcases List.mem_cons.mp hf with rfl | hf
    · exact ⟨(sv_in_top _), .inl rfl, .inl rfl⟩
    cases hf) hG
  have hfr : ∀ k i, ¬ ((k = 184 ∧ i = 4) ∨ (k = 184 ∧ 11 ≤ i ∧ i ≤ 18)) → w'.1 k i = w.1 k i ∧ w'.2 k i = w.2 k i := fun k i hki => hF k i (fun ⟨r, z, z1, z2, z3⟩ => by
    simp only [sm_286_22cf966a, List.mem_cons, List.not_mem_nil, or_false] at z
    rcases z with rfl | rfl
    all_goals (simp only at z1 z2 z3; omega))
  simp only [sm_286_22cf966a, List.mem_cons, List.not_mem_nil, or_false] at hq
  rcases hq with rfl | rfl | rfl | rfl | rfl | rfl | rfl | rfl
  · obtain ⟨x, rfl, hx⟩ := wk_int hr
    have hx := hb_in hx
    have ra2 := hb_in (lo := 2147483649) (hi := 2147483654) (x := a2) hp.2.2.1
    have s0 := hs _ List.mem_cons_self
    have t0 := hb_in (lo := 2147483648) (hi := 2147484588) (x := w'.1 184 4) s0.1
    have u0 : ia_E (w.1 184 4) + 1 ≤ ia_E (w'.1 184 4) + 1 := s0.2.1.resolve_left (by decide)
    have v0 := hb_E (w.1 184 4)
    have y0 := hb_E (w'.1 184 4)
    have s1 := hs _ (List.mem_cons_of_mem _ List.mem_cons_self)
    have t1 := hb_in (lo := 2147483650) (hi := 2147483650) (x := w'.1 184 11) s1.1
    have s2 := hs _ (List.mem_cons_of_mem _ (List.mem_cons_of_mem _ List.mem_cons_self))
    have t2 := hb_in (lo := 2147483648) (hi := 2147483653) (x := w'.1 184 18) s2.1
    exact ⟨x, w', hC, hG', hfr, Or.inl ⟨by omega, by omega, by omega, by omega, by omega, by omega, by omega, by omega, by omega⟩⟩
  · obtain ⟨x, rfl, hx⟩ := wk_int hr
    have hx := hb_in hx
    have ra2 := hb_in (lo := 2147483649) (hi := 2147483654) (x := a2) hp.2.2.1
    have s0 := hs _ List.mem_cons_self
    have t0 := hb_in (lo := 2147483648) (hi := 2147484588) (x := w'.1 184 4) s0.1
    have u0 : ia_E (w.1 184 4) + 1 ≤ ia_E (w'.1 184 4) + 1 := s0.2.1.resolve_left (by decide)
    have v0 := hb_E (w.1 184 4)
    have y0 := hb_E (w'.1 184 4)
    have s1 := hs _ (List.mem_cons_of_mem _ List.mem_cons_self)
    have t1 := hb_in (lo := 2147483649) (hi := 2147483649) (x := w'.1 184 11) s1.1
    have s2 := hs _ (List.mem_cons_of_mem _ (List.mem_cons_of_mem _ List.mem_cons_self))
    have t2 := hb_in (lo := 2147483648) (hi := 2147483653) (x := w'.1 184 18) s2.1
    exact ⟨x, w', hC, hG', hfr, Or.inr (Or.inl ⟨by omega, by omega, by omega, by omega, by omega, by omega, by omega, by omega, by omega⟩)⟩
  · obtain ⟨x, rfl, hx⟩ := wk_int hr
    have hx := hb_in hx
    have ra2 := hb_in (lo := 2147483649) (hi := 2147483654) (x := a2) hp.2.2.1
    have s0 := hs _ List.mem_cons_self
    have t0 := hb_in (lo := 2147483649) (hi := 2147484588) (x := w'.1 184 4) s0.1
    have u0 : ia_E (w.1 184 4) + 2 ≤ ia_E (w'.1 184 4) + 1 := s0.2.1.resolve_left (by decide)
    have v0 := hb_E (w.1 184 4)
    have y0 := hb_E (w'.1 184 4)
    have s1 := hs _ (List.mem_cons_of_mem _ List.mem_cons_self)
    have t1 := hb_in (lo := 2147483652) (hi := 2147483652) (x := w'.1 184 11) s1.1
    have s2 := hs _ (List.mem_cons_of_mem _ (List.mem_cons_of_mem _ List.mem_cons_self))
    have t2 := hb_in (lo := 2147483648) (hi := 2147483653) (x := w'.1 184 18) s2.1
    exact ⟨x, w', hC, hG', hfr, Or.inr (Or.inr (Or.inl ⟨by omega, by omega, by omega, by omega, by omega, by omega, by omega, by omega, by omega⟩))⟩
  · obtain ⟨x, rfl, hx⟩ := wk_int hr
    have hx := hb_in hx
    have ra2 := hb_in (lo := 2147483649) (hi := 2147483654) (x := a2) hp.2.2.1
    have s0 := hs _ List.mem_cons_self
    have t0 := hb_in (lo := 2147483649) (hi := 2147484588) (x := w'.1 184 4) s0.1
    have u0 : ia_E (w.1 184 4) + 2 ≤ ia_E (w'.1 184 4) + 1 := s0.2.1.resolve_left (by decide)
    have v0 := hb_E (w.1 184 4)
    have y0 := hb_E (w'.1 184 4)
    have s1 := hs _ (List.mem_cons_of_mem _ List.mem_cons_self)
    have t1 := hb_in (lo := 2147483651) (hi := 2147483651) (x := w'.1 184 11) s1.1
    have s2 := hs _ (List.mem_cons_of_mem _ (List.mem_cons_of_mem _ List.mem_cons_self))
    have t2 := hb_in (lo := 2147483648) (hi := 2147483653) (x := w'.1 184 18) s2.1
    exact ⟨x, w', hC, hG', hfr, Or.inr (Or.inr (Or.inr (Or.inl ⟨by omega, by omega, by omega, by omega, by omega, by omega, by omega, by omega, by omega⟩)))⟩
  · obtain ⟨x, rfl, hx⟩ := wk_int hr
    have hx := hb_in hx
    have ra2 := hb_in (lo := 2147483649) (hi := 2147483654) (x := a2) hp.2.2.1
    have s0 := hs _ List.mem_cons_self
    have t0 := hb_in (lo := 2147483648) (hi := 2147484588) (x := w'.1 184 4) s0.1
    have u0 : ia_E (w.1 184 4) + 1 ≤ ia_E (w'.1 184 4) + 1 := s0.2.1.resolve_left (by decide)
    have v0 := hb_E (w.1 184 4)
    have y0 := hb_E (w'.1 184 4)
    have s1 := hs _ (List.mem_cons_of_mem _ List.mem_cons_self)
    have t1 := hb_in (lo := 2147483648) (hi := 2147483648) (x := w'.1 184 11) s1.1
    have s2 := hs _ (List.mem_cons_of_mem _ (List.mem_cons_of_mem _ List.mem_cons_self))
    have t2 := hb_in (lo := 2147483648) (hi := 2147483653) (x := w'.1 184 18) s2.1
    exact ⟨x, w', hC, hG', hfr, Or.inr (Or.inr (Or.inr (Or.inr (Or.inl ⟨by omega, by omega, by omega, by omega, by omega, by omega, by omega, by omega, by omega⟩))))⟩
  · obtain ⟨x, rfl, hx⟩ := wk_int hr
    have hx := hb_in hx
    have ra2 := hb_in (lo := 2147483649) (hi := 2147483654) (x := a2) hp.2.2.1
    have s0 := hs _ List.mem_cons_self
    have t0 := hb_in (lo := 2147483648) (hi := 2147484588) (x := w'.1 184 4) s0.1
    have u0 : ia_E (w.1 184 4) + 1 ≤ ia_E (w'.1 184 4) + 1 := s0.2.1.resolve_left (by decide)
    have v0 := hb_E (w.1 184 4)
    have y0 := hb_E (w'.1 184 4)
    have s1 := hs _ (List.mem_cons_of_mem _ List.mem_cons_self)
    have t1 := hb_in (lo := 2147483652) (hi := 2147483652) (x := w'.1 184 11) s1.1
    have s2 := hs _ (List.mem_cons_of_mem _ (List.mem_cons_of_mem _ List.mem_cons_self))
    have t2 := hb_in (lo := 2147483648) (hi := 2147483653) (x := w'.1 184 18) s2.1
    exact ⟨x, w', hC, hG', hfr, Or.inr (Or.inr (Or.inr (Or.inr (Or.inr (Or.inl ⟨by omega, by omega, by omega, by omega, by omega, by omega, by omega, by omega, by omega⟩)))))⟩
  · obtain ⟨x, rfl, hx⟩ := wk_int hr
    have hx := hb_in hx
    have s0 := hs _ List.mem_cons_self
    have t0 := hb_in (lo := 2147483648) (hi := 2147484588) (x := w'.1 184 4) s0.1
    have u0 : ia_E (w.1 184 4) + 1 ≤ ia_E (w'.1 184 4) + 1 := s0.2.1.resolve_left (by decide)
    have v0 := hb_E (w.1 184 4)
    have y0 := hb_E (w'.1 184 4)
    have s1 := hs _ (List.mem_cons_of_mem _ List.mem_cons_self)
    have t1 := hb_in (lo := 2147483649) (hi := 2147483649) (x := w'.1 184 11) s1.1
    have s2 := hs _ (List.mem_cons_of_mem _ (List.mem_cons_of_mem _ List.mem_cons_self))
    have t2 := hb_in (lo := 2147483647) (hi := 2147483647) (x := w'.1 184 18) s2.1
    exact ⟨x, w', hC, hG', hfr, Or.inr (Or.inr (Or.inr (Or.inr (Or.inr (Or.inr (Or.inl ⟨by omega, by omega, by omega, by omega, by omega, by omega⟩))))))⟩
  · obtain ⟨x, rfl, hx⟩ := wk_int hr
    have hx := hb_in hx
    have s0 := hs _ List.mem_cons_self
    have t0 := hb_in (lo := 2147483648) (hi := 2147484588) (x := w'.1 184 4) s0.1
    have u0 : ia_E (w.1 184 4) + 1 ≤ ia_E (w'.1 184 4) + 1 := s0.2.1.resolve_left (by decide)
    have v0 := hb_E (w.1 184 4)
    have y0 := hb_E (w'.1 184 4)
    exact ⟨x, w', hC, hG', hfr, Or.inr (Or.inr (Or.inr (Or.inr (Or.inr (Or.inr (Or.inr (⟨by omega, by omega, by omega, by omega⟩)))))))⟩
set_option maxRecDepth 100000 in
theorem xs_286_fe5cf7a3_3442 {a1 : Int32} {a2 : Int32} {w : cm_W} (h1 : 6 ≤ a1.toInt ∧ a1.toInt ≤ 6) (h2 : 0 ≤ a2.toInt ∧ a2.toInt ≤ 4) (hG : sv_w sg w) : ∃ x : Int32, ∃ w' : cm_W, cm_C 3 286 [.inr (.inr (some 184)), .inl a1, .inl a2] w (some (.inl x), w') ∧ sv_w sg w' ∧ (∀ k i, ¬ ((k = 184 ∧ i = 4) ∨ (k = 184 ∧ 11 ≤ i ∧ i ≤ 18)) → w'.1 k i = w.1 k i ∧ w'.2 k i = w.2 k i) ∧ ((x.toInt = 1 ∧ 1 ≤ a2.toInt ∧ a2.toInt ≤ 4 ∧ 0 ≤ (w'.1 184 4).toInt ∧ (w'.1 184 4).toInt ≤ 940 ∧ (w.1 184 4).toInt + 1 ≤ (w'.1 184 4).toInt + 1 ∧ (w'.1 184 11).toInt = 2 ∧ 0 ≤ (w'.1 184 18).toInt ∧ (w'.1 184 18).toInt ≤ 3) ∨ (x.toInt = 1 ∧ 1 ≤ a2.toInt ∧ a2.toInt ≤ 4 ∧ 0 ≤ (w'.1 184 4).toInt ∧ (w'.1 184 4).toInt ≤ 940 ∧ (w.1 184 4).toInt + 1 ≤ (w'.1 184 4).toInt + 1 ∧ (w'.1 184 11).toInt = 1 ∧ 0 ≤ (w'.1 184 18).toInt ∧ (w'.1 184 18).toInt ≤ 3) ∨ (x.toInt = 1 ∧ 1 ≤ a2.toInt ∧ a2.toInt ≤ 4 ∧ 1 ≤ (w'.1 184 4).toInt ∧ (w'.1 184 4).toInt ≤ 940 ∧ (w.1 184 4).toInt + 2 ≤ (w'.1 184 4).toInt + 1 ∧ (w'.1 184 11).toInt = 4 ∧ 0 ≤ (w'.1 184 18).toInt ∧ (w'.1 184 18).toInt ≤ 3) ∨ (x.toInt = 1 ∧ 1 ≤ a2.toInt ∧ a2.toInt ≤ 4 ∧ 1 ≤ (w'.1 184 4).toInt ∧ (w'.1 184 4).toInt ≤ 940 ∧ (w.1 184 4).toInt + 2 ≤ (w'.1 184 4).toInt + 1 ∧ (w'.1 184 11).toInt = 3 ∧ 0 ≤ (w'.1 184 18).toInt ∧ (w'.1 184 18).toInt ≤ 3) ∨ (x.toInt = 1 ∧ 1 ≤ a2.toInt ∧ a2.toInt ≤ 4 ∧ 0 ≤ (w'.1 184 4).toInt ∧ (w'.1 184 4).toInt ≤ 940 ∧ (w.1 184 4).toInt + 1 ≤ (w'.1 184 4).toInt + 1 ∧ (w'.1 184 11).toInt = 0 ∧ 0 ≤ (w'.1 184 18).toInt ∧ (w'.1 184 18).toInt ≤ 3) ∨ (x.toInt = 1 ∧ 1 ≤ a2.toInt ∧ a2.toInt ≤ 4 ∧ 0 ≤ (w'.1 184 4).toInt ∧ (w'.1 184 4).toInt ≤ 940 ∧ (w.1 184 4).toInt + 1 ≤ (w'.1 184 4).toInt + 1 ∧ (w'.1 184 11).toInt = 4 ∧ 0 ≤ (w'.1 184 18).toInt ∧ (w'.1 184 18).toInt ≤ 3) ∨ (x.toInt = 0 ∧ 0 ≤ (w'.1 184 4).toInt ∧ (w'.1 184 4).toInt ≤ 940 ∧ (w.1 184 4).toInt + 1 ≤ (w'.1 184 4).toInt + 1 ∧ (w'.1 184 11).toInt = 1 ∧ (w'.1 184 18).toInt = (-1)) ∨ (x.toInt = 0 ∧ 0 ≤ (w'.1 184 4).toInt ∧ (w'.1 184 4).toInt ≤ 940 ∧ (w.1 184 4).toInt + 1 ≤ (w'.1 184 4).toInt + 1)) := by
  obtain ⟨r, w', hC, hG', hF, q, hq, hr, hp, hs⟩ := wk_use (d := 3) sm_286_fe5cf7a3_ok (by decide) (as := [.inr (.inr (some 184)), .inl a1, .inl a2]) (w := w) ⟨rfl, hb_mk (lo := 2147483654) (hi := 2147483654) (by have := h1.1; omega) (by have := h1.2; omega), hb_mk (lo := 2147483648) (hi := 2147483652) (by have := h2.1; omega) (by have := h2.2; omega), trivial⟩ (fun f hf => by
    rcases List.mem_cons.mp hf with rfl | hf
    · exact ⟨(by have h9 := hG 184 4; rw [xg_efb20a0a] at h9; exact h9), .inr (Nat.le_refl _), .inl rfl⟩
    rcases List.mem_cons.mp hf with rfl | hf
    · exact ⟨(by have h9 := hG 184 11; rw [xg_d6f571af] at h9; exact h9), .inl rfl, .inl rfl⟩
    rcases List.mem_cons.mp hf with rfl | hf
    · exact ⟨(sv_in_top _), .inl rfl, .inl rfl⟩
    cases hf) hG
  have hfr : ∀ k i, ¬ ((k = 184 ∧ i = 4) ∨ (k = 184 ∧ 11 ≤ i ∧ i ≤ 18)) → w'.1 k i = w.1 k i ∧ w'.2 k i = w.2 k i := fun k i hki => hF k i (fun ⟨r, z, z1, z2, z3⟩ => by
    simp only [sm_286_fe5cf7a3, List.mem_cons, List.not_mem_nil, or_false] at z
    rcases z with rfl | rfl
    all_goals (simp only at z1 z2 z3; omega))
  simp only [sm_286_fe5cf7a3, List.mem_cons, List.not_mem_nil, or_false] at hq
  rcases hq with rfl | rfl | rfl | rfl | rfl | rfl | rfl | rfl
  · obtain ⟨x, rfl, hx⟩ := wk_int hr
    have hx := hb_in hx
    have ra2 := hb_in (lo := 2147483649) (hi := 2147483652) (x := a2) hp.2.2.1
    have s0 := hs _ List.mem_cons_self
    have t0 := hb_in (lo := 2147483648) (hi := 2147484588) (x := w'.1 184 4) s0.1
    have u0 : ia_E (w.1 184 4) + 1 ≤ ia_E (w'.1 184 4) + 1 := s0.2.1.resolve_left (by decide)
    have v0 := hb_E (w.1 184 4)
    have y0 := hb_E (w'.1 184 4)
    have s1 := hs _ (List.mem_cons_of_mem _ List.mem_cons_self)
    have t1 := hb_in (lo := 2147483650) (hi := 2147483650) (x := w'.1 184 11) s1.1
    have s2 := hs _ (List.mem_cons_of_mem _ (List.mem_cons_of_mem _ List.mem_cons_self))
    have t2 := hb_in (lo := 2147483648) (hi := 2147483651) (x := w'.1 184 18) s2.1
    exact ⟨x, w', hC, hG', hfr, Or.inl ⟨by omega, by omega, by omega, by omega, by omega, by omega, by omega, by omega, by omega⟩⟩
  · obtain ⟨x, rfl, hx⟩ := wk_int hr
    have hx := hb_in hx
    have ra2 := hb_in (lo := 2147483649) (hi := 2147483652) (x := a2) hp.2.2.1
    have s0 := hs _ List.mem_cons_self
    have t0 := hb_in (lo := 2147483648) (hi := 2147484588) (x := w'.1 184 4) s0.1
    have u0 : ia_E (w.1 184 4) + 1 ≤ ia_E (w'.1 184 4) + 1 := s0.2.1.resolve_left (by decide)
    have v0 := hb_E (w.1 184 4)
    have y0 := hb_E (w'.1 184 4)
    have s1 := hs _ (List.mem_cons_of_mem _ List.mem_cons_self)
    have t1 := hb_in (lo := 2147483649) (hi := 2147483649) (x := w'.1 184 11) s1.1
    have s2 := hs _ (List.mem_cons_of_mem _ (List.mem_cons_of_mem _ List.mem_cons_self))
    have t2 := hb_in (lo := 2147483648) (hi := 2147483651) (x := w'.1 184 18) s2.1
    exact ⟨x, w', hC, hG', hfr, Or.inr (Or.inl ⟨by omega, by omega, by omega, by omega, by omega, by omega, by omega, by omega, by omega⟩)⟩
  · obtain ⟨x, rfl, hx⟩ := wk_int hr
    have hx := hb_in hx
    have ra2 := hb_in (lo := 2147483649) (hi := 2147483652) (x := a2) hp.2.2.1
    have s0 := hs _ List.mem_cons_self
    have t0 := hb_in (lo := 2147483649) (hi := 2147484588) (x := w'.1 184 4) s0.1
    have u0 : ia_E (w.1 184 4) + 2 ≤ ia_E (w'.1 184 4) + 1 := s0.2.1.resolve_left (by decide)
    have v0 := hb_E (w.1 184 4)
    have y0 := hb_E (w'.1 184 4)
    have s1 := hs _ (List.mem_cons_of_mem _ List.mem_cons_self)
    have t1 := hb_in (lo := 2147483652) (hi := 2147483652) (x := w'.1 184 11) s1.1
    have s2 := hs _ (List.mem_cons_of_mem _ (List.mem_cons_of_mem _ List.mem_cons_self))
    have t2 := hb_in (lo := 2147483648) (hi := 2147483651) (x := w'.1 184 18) s2.1
    exact ⟨x, w', hC, hG', hfr, Or.inr (Or.inr (Or.inl ⟨by omega, by omega, by omega, by omega, by omega, by omega, by omega, by omega, by omega⟩))⟩
  · obtain ⟨x, rfl, hx⟩ := wk_int hr
    have hx := hb_in hx
    have ra2 := hb_in (lo := 2147483649) (hi := 2147483652) (x := a2) hp.2.2.1
    have s0 := hs _ List.mem_cons_self
    have t0 := hb_in (lo := 2147483649) (hi := 2147484588) (x := w'.1 184 4) s0.1
    have u0 : ia_E (w.1 184 4) + 2 ≤ ia_E (w'.1 184 4) + 1 := s0.2.1.resolve_left (by decide)
    have v0 := hb_E (w.1 184 4)
    have y0 := hb_E (w'.1 184 4)
    have s1 := hs _ (List.mem_cons_of_mem _ List.mem_cons_self)
    have t1 := hb_in (lo := 2147483651) (hi := 2147483651) (x := w'.1 184 11) s1.1
    have s2 := hs _ (List.mem_cons_of_mem _ (List.mem_cons_of_mem _ List.mem_cons_self))
    have t2 := hb_in (lo := 2147483648) (hi := 2147483651) (x := w'.1 184 18) s2.1
    exact ⟨x, w', hC, hG', hfr, Or.inr (Or.inr (Or.inr (Or.inl ⟨by omega, by omega, by omega, by omega, by omega, by omega, by omega, by omega, by omega⟩)))⟩
  · obtain ⟨x, rfl, hx⟩ := wk_int hr
    have hx := hb_in hx
    have ra2 := hb_in (lo := 2147483649) (hi := 2147483652) (x := a2) hp.2.2.1
    have s0 := hs _ List.mem_cons_self
    have t0 := hb_in (lo := 2147483648) (hi := 2147484588) (x := w'.1 184 4) s0.1
    have u0 : ia_E (w.1 184 4) + 1 ≤ ia_E (w'.1 184 4) + 1 := s0.2.1.resolve_left (by decide)
    have v0 := hb_E (w.1 184 4)
    have y0 := hb_E (w'.1 184 4)
    have s1 := hs _ (List.mem_cons_of_mem _ List.mem_cons_self)
    have t1 := hb_in (lo := 2147483648) (hi := 2147483648) (x := w'.1 184 11) s1.1
    have s2 := hs _ (List.mem_cons_of_mem _ (List.mem_cons_of_mem _ List.mem_cons_self))
    have t2 := hb_in (lo := 2147483648) (hi := 2147483651) (x := w'.1 184 18) s2.1
    exact ⟨x, w', hC, hG', hfr, Or.inr (Or.inr (Or.inr (Or.inr (Or.inl ⟨by omega, by omega, by omega, by omega, by omega, by omega, by omega, by omega, by omega⟩))))⟩
  · obtain ⟨x, rfl, hx⟩ := wk_int hr
    have hx := hb_in hx
    have ra2 := hb_in (lo := 2147483649) (hi := 2147483652) (x := a2) hp.2.2.1
    have s0 := hs _ List.mem_cons_self
    have t0 := hb_in (lo := 2147483648) (hi := 2147484588) (x := w'.1 184 4) s0.1
    have u0 : ia_E (w.1 184 4) + 1 ≤ ia_E (w'.1 184 4) + 1 := s0.2.1.resolve_left (by decide)
    have v0 := hb_E (w.1 184 4)
    have y0 := hb_E (w'.1 184 4)
    have s1 := hs _ (List.mem_cons_of_mem _ List.mem_cons_self)
    have t1 := hb_in (lo := 2147483652) (hi := 2147483652) (x := w'.1 184 11) s1.1
    have s2 := hs _ (List.mem_cons_of_mem _ (List.mem_cons_of_mem _ List.mem_cons_self))
    have t2 := hb_in (lo := 2147483648) (hi := 2147483651) (x := w'.1 184 18) s2.1
    exact ⟨x, w', hC, hG', hfr, Or.inr (Or.inr (Or.inr (Or.inr (Or.inr (Or.inl ⟨by omega, by omega, by omega, by omega, by omega, by omega, by omega, by omega, by omega⟩)))))⟩
  · obtain ⟨x, rfl, hx⟩ := wk_int hr
    have hx := hb_in hx
    have s0 := hs _ List.mem_cons_self
    have t0 := hb_in (lo := 2147483648) (hi := 2147484588) (x := w'.1 184 4) s0.1
    have u0 : ia_E (w.1 184 4) + 1 ≤ ia_E (w'.1 184 4) + 1 := s0.2.1.resolve_left (by decide)
    have v0 := hb_E (w.1 184 4)
    have y0 := hb_E (w'.1 184 4)
    have s1 := hs _ (List.mem_cons_of_mem _ List.mem_cons_self)
    have t1 := hb_in (lo := 2147483649) (hi := 2147483649) (x := w'.1 184 11) s1.1
    have s2 := hs _ (List.mem_cons_of_mem _ (List.mem_cons_of_mem _ List.mem_cons_self))
    have t2 := hb_in (lo := 2147483647) (hi := 2147483647) (x := w'.1 184 18) s2.1
    exact ⟨x, w', hC, hG', hfr, Or.inr (Or.inr (Or.inr (Or.inr (Or.inr (Or.inr (Or.inl ⟨by omega, by omega, by omega, by omega, by omega, by omega⟩))))))⟩
  · obtain ⟨x, rfl, hx⟩ := wk_int hr
    have hx := hb_in hx
    have s0 := hs _ List.mem_cons_self
    have t0 := hb_in (lo := 2147483648) (hi := 2147484588) (x := w'.1 184 4) s0.1
    have u0 : ia_E (w.1 184 4) + 1 ≤ ia_E (w'.1 184 4) + 1 := s0.2.1.resolve_left (by decide)
    have v0 := hb_E (w.1 184 4)
    have y0 := hb_E (w'.1 184 4)
    exact ⟨x, w', hC, hG', hfr, Or.inr (Or.inr (Or.inr (Or.inr (Or.inr (Or.inr (Or.inr (⟨by omega, by omega, by omega, by omega⟩)))))))⟩
set_option maxRecDepth 100000 in
theorem xs_285_0c383f3f_3442 {a1 : Int32} {a2 : Int32} {w : cm_W} (h1 : 1 ≤ a1.toInt ∧ a1.toInt ≤ 60) (h2 : 1 ≤ a2.toInt ∧ a2.toInt ≤ 60) (hG : sv_w sg w) : ∃ x : Int32, ∃ w' : cm_W, cm_C 3 285 [.inr (.inr (some 184)), .inl a1, .inl a2] w (some (.inl x), w') ∧ sv_w sg w' ∧ (∀ k i, ¬ ((k = 184 ∧ i = 4) ∨ (k = 184 ∧ 11 ≤ i ∧ i ≤ 18)) → w'.1 k i = w.1 k i ∧ w'.2 k i = w.2 k i) ∧ ((x.toInt = 0 ∧ 0 ≤ (w'.1 184 4).toInt ∧ (w'.1 184 4).toInt ≤ 940 ∧ (w.1 184 4).toInt + 1 ≤ (w'.1 184 4).toInt + 1) ∨ (x.toInt = 0 ∧ 0 ≤ (w'.1 184 4).toInt ∧ (w'.1 184 4).toInt ≤ 940 ∧ (w.1 184 4).toInt + 1 ≤ (w'.1 184 4).toInt + 1 ∧ (w'.1 184 11).toInt = 2) ∨ (x.toInt = 1 ∧ 0 ≤ (w'.1 184 4).toInt ∧ (w'.1 184 4).toInt ≤ 940 ∧ (w.1 184 4).toInt + 1 ≤ (w'.1 184 4).toInt + 1 ∧ (w'.1 184 11).toInt = 2 ∧ 1 ≤ (w'.1 184 18).toInt ∧ (w'.1 184 18).toInt ≤ 60) ∨ (x.toInt = 1 ∧ 0 ≤ (w'.1 184 4).toInt ∧ (w'.1 184 4).toInt ≤ 940 ∧ (w.1 184 4).toInt + 1 ≤ (w'.1 184 4).toInt + 1 ∧ (w'.1 184 11).toInt = 1 ∧ 1 ≤ (w'.1 184 18).toInt ∧ (w'.1 184 18).toInt ≤ 60) ∨ (x.toInt = 1 ∧ 1 ≤ (w'.1 184 4).toInt ∧ (w'.1 184 4).toInt ≤ 940 ∧ (w.1 184 4).toInt + 2 ≤ (w'.1 184 4).toInt + 1 ∧ (w'.1 184 11).toInt = 4 ∧ 1 ≤ (w'.1 184 18).toInt ∧ (w'.1 184 18).toInt ≤ 60) ∨ (x.toInt = 1 ∧ 1 ≤ (w'.1 184 4).toInt ∧ (w'.1 184 4).toInt ≤ 940 ∧ (w.1 184 4).toInt + 2 ≤ (w'.1 184 4).toInt + 1 ∧ (w'.1 184 11).toInt = 3 ∧ 1 ≤ (w'.1 184 18).toInt ∧ (w'.1 184 18).toInt ≤ 60) ∨ (x.toInt = 1 ∧ 0 ≤ (w'.1 184 4).toInt ∧ (w'.1 184 4).toInt ≤ 940 ∧ (w.1 184 4).toInt + 1 ≤ (w'.1 184 4).toInt + 1 ∧ (w'.1 184 11).toInt = 0 ∧ 1 ≤ (w'.1 184 18).toInt ∧ (w'.1 184 18).toInt ≤ 60) ∨ (x.toInt = 1 ∧ 0 ≤ (w'.1 184 4).toInt ∧ (w'.1 184 4).toInt ≤ 940 ∧ (w.1 184 4).toInt + 1 ≤ (w'.1 184 4).toInt + 1 ∧ (w'.1 184 11).toInt = 4 ∧ 1 ≤ (w'.1 184 18).toInt ∧ (w'.1 184 18).toInt ≤ 60)) := by
  obtain ⟨r, w', hC, hG', hF, q, hq, hr, hp, hs⟩ := wk_use (d := 3) sm_285_0c383f3f_ok (by decide) (as := [.inr (.inr (some 184)), .inl a1, .inl a2]) (w := w) ⟨rfl, hb_mk (lo := 2147483649) (hi := 2147483708) (by have := h1.1; omega) (by have := h1.2; omega), hb_mk (lo := 2147483649) (hi := 2147483708) (by have := h2.1; omega) (by have := h2.2; omega), trivial⟩ (fun f hf => by
    rcases List.mem_cons.mp hf with rfl | hf
    · exact ⟨(by have h9 := hG 184 4; rw [xg_efb20a0a] at h9; exact h9), .inr (Nat.le_refl _), .inl rfl⟩
    rcases List.mem_cons.mp hf with rfl | hf
    · exact ⟨(by have h9 := hG 184 11; rw [xg_d6f571af] at h9; exact h9), .inl rfl, .inl rfl⟩
    rcases List.mem_cons.mp hf with rfl | hf
    · exact ⟨(sv_in_top _), .inl rfl, .inl rfl⟩
    rcases List.mem_cons.mp hf with rfl | hf
    · exact ⟨(sv_in_top _), .inl rfl, .inl rfl⟩
    cases hf) hG
  have hfr : ∀ k i, ¬ ((k = 184 ∧ i = 4) ∨ (k = 184 ∧ 11 ≤ i ∧ i ≤ 18)) → w'.1 k i = w.1 k i ∧ w'.2 k i = w.2 k i := fun k i hki => hF k i (fun ⟨r, z, z1, z2, z3⟩ => by
    simp only [sm_285_0c383f3f, List.mem_cons, List.not_mem_nil, or_false] at z
    rcases z with rfl | rfl
    all_goals (simp only at z1 z2 z3; omega))
  simp only [sm_285_0c383f3f, List.mem_cons, List.not_mem_nil, or_false] at hq
  rcases hq with rfl | rfl | rfl | rfl | rfl | rfl | rfl | rfl
  · obtain ⟨x, rfl, hx⟩ := wk_int hr
    have hx := hb_in hx
    have s0 := hs _ List.mem_cons_self
    have t0 := hb_in (lo := 2147483648) (hi := 2147484588) (x := w'.1 184 4) s0.1
    have u0 : ia_E (w.1 184 4) + 1 ≤ ia_E (w'.1 184 4) + 1 := s0.2.1.resolve_left (by decide)
    have v0 := hb_E (w.1 184 4)
    have y0 := hb_E (w'.1 184 4)
    exact ⟨x, w', hC, hG', hfr, Or.inl ⟨by omega, by omega, by omega, by omega⟩⟩
  · obtain ⟨x, rfl, hx⟩ := wk_int hr
    have hx := hb_in hx
    have s0 := hs _ List.mem_cons_self
    have t0 := hb_in (lo := 2147483648) (hi := 2147484588) (x := w'.1 184 4) s0.1
    have u0 : ia_E (w.1 184 4) + 1 ≤ ia_E (w'.1 184 4) + 1 := s0.2.1.resolve_left (by decide)
    have v0 := hb_E (w.1 184 4)
    have y0 := hb_E (w'.1 184 4)
    have s1 := hs _ (List.mem_cons_of_mem _ List.mem_cons_self)
    have t1 := hb_in (lo := 2147483650) (hi := 2147483650) (x := w'.1 184 11) s1.1
    exact ⟨x, w', hC, hG', hfr, Or.inr (Or.inl ⟨by omega, by omega, by omega, by omega, by omega⟩)⟩
  · obtain ⟨x, rfl, hx⟩ := wk_int hr
    have hx := hb_in hx
    have s0 := hs _ List.mem_cons_self
    have t0 := hb_in (lo := 2147483648) (hi := 2147484588) (x := w'.1 184 4) s0.1
    have u0 : ia_E (w.1 184 4) + 1 ≤ ia_E (w'.1 184 4) + 1 := s0.2.1.resolve_left (by decide)
    have v0 := hb_E (w.1 184 4)
    have y0 := hb_E (w'.1 184 4)
    have s1 := hs _ (List.mem_cons_of_mem _ List.mem_cons_self)
    have t1 := hb_in (lo := 2147483650) (hi := 2147483650) (x := w'.1 184 11) s1.1
    have s2 := hs _ (List.mem_cons_of_mem _ (List.mem_cons_of_mem _ List.mem_cons_self))
    have t2 := hb_in (lo := 2147483649) (hi := 2147483708) (x := w'.1 184 18) s2.1
    exact ⟨x, w', hC, hG', hfr, Or.inr (Or.inr (Or.inl ⟨by omega, by omega, by omega, by omega, by omega, by omega, by omega⟩))⟩
  · obtain ⟨x, rfl, hx⟩ := wk_int hr
    have hx := hb_in hx
    have s0 := hs _ List.mem_cons_self
    have t0 := hb_in (lo := 2147483648) (hi := 2147484588) (x := w'.1 184 4) s0.1
    have u0 : ia_E (w.1 184 4) + 1 ≤ ia_E (w'.1 184 4) + 1 := s0.2.1.resolve_left (by decide)
    have v0 := hb_E (w.1 184 4)
    have y0 := hb_E (w'.1 184 4)
    have s1 := hs _ (List.mem_cons_of_mem _ List.mem_cons_self)
    have t1 := hb_in (lo := 2147483649) (hi := 2147483649) (x := w'.1 184 11) s1.1
    have s2 := hs _ (List.mem_cons_of_mem _ (List.mem_cons_of_mem _ List.mem_cons_self))
    have t2 := hb_in (lo := 2147483649) (hi := 2147483708) (x := w'.1 184 18) s2.1
    exact ⟨x, w', hC, hG', hfr, Or.inr (Or.inr (Or.inr (Or.inl ⟨by omega, by omega, by omega, by omega, by omega, by omega, by omega⟩)))⟩
  · obtain ⟨x, rfl, hx⟩ := wk_int hr
    have hx := hb_in hx
    have s0 := hs _ List.mem_cons_self
    have t0 := hb_in (lo := 2147483649) (hi := 2147484588) (x := w'.1 184 4) s0.1
    have u0 : ia_E (w.1 184 4) + 2 ≤ ia_E (w'.1 184 4) + 1 := s0.2.1.resolve_left (by decide)
    have v0 := hb_E (w.1 184 4)
    have y0 := hb_E (w'.1 184 4)
    have s1 := hs _ (List.mem_cons_of_mem _ List.mem_cons_self)
    have t1 := hb_in (lo := 2147483652) (hi := 2147483652) (x := w'.1 184 11) s1.1
    have s2 := hs _ (List.mem_cons_of_mem _ (List.mem_cons_of_mem _ List.mem_cons_self))
    have t2 := hb_in (lo := 2147483649) (hi := 2147483708) (x := w'.1 184 18) s2.1
    exact ⟨x, w', hC, hG', hfr, Or.inr (Or.inr (Or.inr (Or.inr (Or.inl ⟨by omega, by omega, by omega, by omega, by omega, by omega, by omega⟩))))⟩
  · obtain ⟨x, rfl, hx⟩ := wk_int hr
    have hx := hb_in hx
    have s0 := hs _ List.mem_cons_self
    have t0 := hb_in (lo := 2147483649) (hi := 2147484588) (x := w'.1 184 4) s0.1
    have u0 : ia_E (w.1 184 4) + 2 ≤ ia_E (w'.1 184 4) + 1 := s0.2.1.resolve_left (by decide)
    have v0 := hb_E (w.1 184 4)
    have y0 := hb_E (w'.1 184 4)
    have s1 := hs _ (List.mem_cons_of_mem _ List.mem_cons_self)
    have t1 := hb_in (lo := 2147483651) (hi := 2147483651) (x := w'.1 184 11) s1.1
    have s2 := hs _ (List.mem_cons_of_mem _ (List.mem_cons_of_mem _ List.mem_cons_self))
    have t2 := hb_in (lo := 2147483649) (hi := 2147483708) (x := w'.1 184 18) s2.1
    exact ⟨x, w', hC, hG', hfr, Or.inr (Or.inr (Or.inr (Or.inr (Or.inr (Or.inl ⟨by omega, by omega, by omega, by omega, by omega, by omega, by omega⟩)))))⟩
  · obtain ⟨x, rfl, hx⟩ := wk_int hr
    have hx := hb_in hx
    have s0 := hs _ List.mem_cons_self
    have t0 := hb_in (lo := 2147483648) (hi := 2147484588) (x := w'.1 184 4) s0.1
    have u0 : ia_E (w.1 184 4) + 1 ≤ ia_E (w'.1 184 4) + 1 := s0.2.1.resolve_left (by decide)
    have v0 := hb_E (w.1 184 4)
    have y0 := hb_E (w'.1 184 4)
    have s1 := hs _ (List.mem_cons_of_mem _ List.mem_cons_self)
    have t1 := hb_in (lo := 2147483648) (hi := 2147483648) (x := w'.1 184 11) s1.1
    have s2 := hs _ (List.mem_cons_of_mem _ (List.mem_cons_of_mem _ List.mem_cons_self))
    have t2 := hb_in (lo := 2147483649) (hi := 2147483708) (x := w'.1 184 18) s2.1
    exact ⟨x, w', hC, hG', hfr, Or.inr (Or.inr (Or.inr (Or.inr (Or.inr (Or.inr (Or.inl ⟨by omega, by omega, by omega, by omega, by omega, by omega, by omega⟩))))))⟩
  · obtain ⟨x, rfl, hx⟩ := wk_int hr
    have hx := hb_in hx
    have s0 := hs _ List.mem_cons_self
    have t0 := hb_in (lo := 2147483648) (hi := 2147484588) (x := w'.1 184 4) s0.1
    have u0 : ia_E (w.1 184 4) + 1 ≤ ia_E (w'.1 184 4) + 1 := s0.2.1.resolve_left (by decide)
    have v0 := hb_E (w.1 184 4)
    have y0 := hb_E (w'.1 184 4)
    have s1 := hs _ (List.mem_cons_of_mem _ List.mem_cons_self)
    have t1 := hb_in (lo := 2147483652) (hi := 2147483652) (x := w'.1 184 11) s1.1
    have s2 := hs _ (List.mem_cons_of_mem _ (List.mem_cons_of_mem _ List.mem_cons_self))
    have t2 := hb_in (lo := 2147483649) (hi := 2147483708) (x := w'.1 184 18) s2.1
    exact ⟨x, w', hC, hG', hfr, Or.inr (Or.inr (Or.inr (Or.inr (Or.inr (Or.inr (Or.inr (⟨by omega, by omega, by omega, by omega, by omega, by omega, by omega⟩)))))))⟩
set_option maxRecDepth 100000 in
theorem xs_274_f7bbdafb_3442 {a1 : Int32} {a2 : Int32} {w : cm_W} (h1 : 0 ≤ a1.toInt ∧ a1.toInt ≤ 0) (h2 : 0 ≤ a2.toInt ∧ a2.toInt ≤ 6) (hG : sv_w sg w) : ∃ x : Int32, ∃ w' : cm_W, cm_C 2 274 [.inr (.inr (some 184)), .inl a1, .inl a2] w (some (.inl x), w') ∧ sv_w sg w' ∧ (∀ k i, ¬ ((k = 184 ∧ 15 ≤ i ∧ i ≤ 16) ∨ (k = 184 ∧ i = 18)) → w'.1 k i = w.1 k i ∧ w'.2 k i = w.2 k i) ∧ ((x.toInt = 0 ∧ 0 ≤ (w'.1 184 4).toInt ∧ (w'.1 184 4).toInt ≤ 940 ∧ (w.1 184 4).toInt + 1 ≤ (w'.1 184 4).toInt + 1) ∨ (x.toInt = 0 ∧ 0 ≤ (w'.1 184 4).toInt ∧ (w'.1 184 4).toInt ≤ 940 ∧ (w.1 184 4).toInt + 1 ≤ (w'.1 184 4).toInt + 1 ∧ (w'.1 184 11).toInt = 1 ∧ (w'.1 184 18).toInt = (-1)) ∨ (x.toInt = 1 ∧ 1 ≤ a2.toInt ∧ a2.toInt ≤ 6 ∧ 0 ≤ (w'.1 184 4).toInt ∧ (w'.1 184 4).toInt ≤ 940 ∧ (w.1 184 4).toInt + 1 ≤ (w'.1 184 4).toInt + 1 ∧ (w'.1 184 11).toInt = 1 ∧ 0 ≤ (w'.1 184 18).toInt ∧ (w'.1 184 18).toInt ≤ 5)) := by
  obtain ⟨r, w', hC, hG', hF, q, hq, hr, hp, hs⟩ := wk_use (d := 2) sm_274_f7bbdafb_ok (by decide) (as := [.inr (.inr (some 184)), .inl a1, .inl a2]) (w := w) ⟨rfl, hb_mk (lo := 2147483648) (hi := 2147483648) (by have := h1.1; omega) (by have := h1.2; omega), hb_mk (lo := 2147483648) (hi := 2147483654) (by have := h2.1; omega) (by have := h2.2; omega), trivial⟩ (fun f hf => by
    rcases List.mem_cons.mp hf with rfl | hf
    · exact ⟨(by have h9 := hG 184 4; rw [xg_efb20a0a] at h9; exact h9), .inr (Nat.le_refl _), .inl rfl⟩
    rcases List.mem_cons.mp hf with rfl | hf
    · exact ⟨(by have h9 := hG 184 11; rw [xg_d6f571af] at h9; exact h9), .inl rfl, .inl rfl⟩
    rcases List.mem_cons.mp hf with rfl | hf
    · exact ⟨(sv_in_top _), .inl rfl, .inl rfl⟩
    cases hf) hG
  have hfr : ∀ k i, ¬ ((k = 184 ∧ 15 ≤ i ∧ i ≤ 16) ∨ (k = 184 ∧ i = 18)) → w'.1 k i = w.1 k i ∧ w'.2 k i = w.2 k i := fun k i hki => hF k i (fun ⟨r, z, z1, z2, z3⟩ => by
    simp only [sm_274_f7bbdafb, List.mem_cons, List.not_mem_nil, or_false] at z
    rcases z with rfl | rfl
    all_goals (simp only at z1 z2 z3; omega))
  simp only [sm_274_f7bbdafb, List.mem_cons, List.not_mem_nil, or_false] at hq
  rcases hq with rfl | rfl | rfl
  · obtain ⟨x, rfl, hx⟩ := wk_int hr
    have hx := hb_in hx
    have s0 := hs _ List.mem_cons_self
    have t0 := hb_in (lo := 2147483648) (hi := 2147484588) (x := w'.1 184 4) s0.1
    have u0 : ia_E (w.1 184 4) + 1 ≤ ia_E (w'.1 184 4) + 1 := s0.2.1.resolve_left (by decide)
    have v0 := hb_E (w.1 184 4)
    have y0 := hb_E (w'.1 184 4)
    exact ⟨x, w', hC, hG', hfr, Or.inl ⟨by omega, by omega, by omega, by omega⟩⟩
  · obtain ⟨x, rfl, hx⟩ := wk_int hr
    have hx := hb_in hx
    have s0 := hs _ List.mem_cons_self
    have t0 := hb_in (lo := 2147483648) (hi := 2147484588) (x := w'.1 184 4) s0.1
    have u0 : ia_E (w.1 184 4) + 1 ≤ ia_E (w'.1 184 4) + 1 := s0.2.1.resolve_left (by decide)
    have v0 := hb_E (w.1 184 4)
    have y0 := hb_E (w'.1 184 4)
    have s1 := hs _ (List.mem_cons_of_mem _ List.mem_cons_self)
    have t1 := hb_in (lo := 2147483649) (hi := 2147483649) (x := w'.1 184 11) s1.1
    have s2 := hs _ (List.mem_cons_of_mem _ (List.mem_cons_of_mem _ List.mem_cons_self))
    have t2 := hb_in (lo := 2147483647) (hi := 2147483647) (x := w'.1 184 18) s2.1
    exact ⟨x, w', hC, hG', hfr, Or.inr (Or.inl ⟨by omega, by omega, by omega, by omega, by omega, by omega⟩)⟩
  · obtain ⟨x, rfl, hx⟩ := wk_int hr
    have hx := hb_in hx
    have ra2 := hb_in (lo := 2147483649) (hi := 2147483654) (x := a2) hp.2.2.1
    have s0 := hs _ List.mem_cons_self
    have t0 := hb_in (lo := 2147483648) (hi := 2147484588) (x := w'.1 184 4) s0.1
    have u0 : ia_E (w.1 184 4) + 1 ≤ ia_E (w'.1 184 4) + 1 := s0.2.1.resolve_left (by decide)
    have v0 := hb_E (w.1 184 4)
    have y0 := hb_E (w'.1 184 4)
    have s1 := hs _ (List.mem_cons_of_mem _ List.mem_cons_self)
    have t1 := hb_in (lo := 2147483649) (hi := 2147483649) (x := w'.1 184 11) s1.1
    have s2 := hs _ (List.mem_cons_of_mem _ (List.mem_cons_of_mem _ List.mem_cons_self))
    have t2 := hb_in (lo := 2147483648) (hi := 2147483653) (x := w'.1 184 18) s2.1
    exact ⟨x, w', hC, hG', hfr, Or.inr (Or.inr (⟨by omega, by omega, by omega, by omega, by omega, by omega, by omega, by omega, by omega⟩))⟩
set_option maxRecDepth 100000 in
theorem xg_e41a4c4a : sv_g sg 184 35 = (2147483648, 2147483688) := by decide +kernel
set_option maxRecDepth 100000 in
theorem xd_0421ed93 : decode (ia_code 246) 47 = .ok (.aload_n 0, 1) := fdd_d (by decide +kernel)
set_option maxRecDepth 100000 in
theorem xd_30e2b169 : decode (ia_code 246) 48 = .ok (.getfield 394, 3) := fdd_d (by decide +kernel)
set_option maxRecDepth 100000 in
theorem xf_e9a2fb12 : wk_gf 246 394 184 35 0 = true := by decide +kernel
set_option maxRecDepth 100000 in
theorem xd_be1b9839 : decode (ia_code 246) 51 = .ok (.bipush 40, 2) := fdd_d (by decide +kernel)
set_option maxRecDepth 100000 in
theorem xd_85a27577 : decode (ia_code 246) 53 = .ok (.if_icmp .ne 9, 3) := fdd_d (by decide +kernel)
set_option maxRecDepth 100000 in
theorem xd_46356adb : decode (ia_code 246) 62 = .ok (.aload_n 0, 1) := fdd_d (by decide +kernel)
set_option maxRecDepth 100000 in
theorem xd_44a7f25e : decode (ia_code 246) 63 = .ok (.getfield 40, 3) := fdd_d (by decide +kernel)
set_option maxRecDepth 100000 in
theorem xf_fbe359c7 : wk_gf 246 40 184 8 (188 + 3) = true := by decide +kernel
set_option maxRecDepth 100000 in
theorem xd_210a3195 : decode (ia_code 246) 66 = .ok (.iload_n 1, 1) := fdd_d (by decide +kernel)
set_option maxRecDepth 100000 in
theorem xd_d20c42f6 : decode (ia_code 246) 67 = .ok (.iconst 1, 1) := fdd_d (by decide +kernel)
set_option maxRecDepth 100000 in
theorem xd_90fd4193 : decode (ia_code 246) 68 = .ok (.iadd, 1) := fdd_d (by decide +kernel)
set_option maxRecDepth 100000 in
theorem xd_306910c0 : decode (ia_code 246) 69 = .ok (.aload_n 0, 1) := fdd_d (by decide +kernel)
set_option maxRecDepth 100000 in
theorem xd_f05c20fa : decode (ia_code 246) 70 = .ok (.getfield 186, 3) := fdd_d (by decide +kernel)
set_option maxRecDepth 100000 in
theorem xf_0beae9b4 : wk_gf 246 186 184 18 0 = true := by decide +kernel
set_option maxRecDepth 100000 in
theorem xd_a5ee5817 : decode (ia_code 246) 73 = .ok (.iastore, 1) := fdd_d (by decide +kernel)
set_option maxRecDepth 100000 in
theorem xh_02a71e7e : ∀ i, i < 135 → sv_g sg 188 i = sv_top := by decide +kernel
set_option maxRecDepth 100000 in
theorem xd_2ada7d86 : decode (ia_code 246) 74 = .ok (.aload_n 0, 1) := fdd_d (by decide +kernel)
set_option maxRecDepth 100000 in
theorem xl_9e9a7c95 : ia_pl (ia_cls 246) 179 = some (1, 129, 0, 0, 1646) := by decide +kernel
set_option maxRecDepth 100000 in
theorem xd_32c56d39 : decode (ia_code 246) 75 = .ok (.invokevirtual 179, 3) := fdd_d (by decide +kernel)
set_option maxRecDepth 100000 in
theorem xd_0afc1f3e : decode (ia_code 246) 78 = .ok (.iload_n 2, 1) := fdd_d (by decide +kernel)
set_option maxRecDepth 100000 in
theorem xd_9bac4aef : decode (ia_code 246) 79 = .ok (.ifCond .eq 41, 3) := fdd_d (by decide +kernel)
set_option maxRecDepth 100000 in
theorem xd_cbf9d34f : decode (ia_code 246) 120 = .ok (.iload_n 3, 1) := fdd_d (by decide +kernel)
set_option maxRecDepth 100000 in
theorem xd_f9d01cba : decode (ia_code 246) 121 = .ok (.ifCond .eq 36, 3) := fdd_d (by decide +kernel)
set_option maxRecDepth 100000 in
theorem xd_91fbd52b : decode (ia_code 246) 157 = .ok (.aload_n 0, 1) := fdd_d (by decide +kernel)
set_option maxRecDepth 100000 in
theorem xd_f0dc8898 : decode (ia_code 246) 158 = .ok (.ldc2_w 108, 3) := fdd_d (by decide +kernel)
set_option maxRecDepth 100000 in
theorem xl_52b08207 : ia_pl (ia_cls 246) 108 = some (9, 1700885619, 0, 0, 1476) := by decide +kernel
set_option maxRecDepth 100000 in
theorem xl_56cf5afc : ia_pl (ia_cls 246) 210 = some (1, 120, 0, 0, 1664) := by decide +kernel
set_option maxRecDepth 100000 in
theorem xd_d727e482 : decode (ia_code 246) 161 = .ok (.invokevirtual 210, 3) := fdd_d (by decide +kernel)
set_option maxRecDepth 100000 in
theorem xd_95d2ae28 : decode (ia_code 246) 164 = .ok (.ifCond .eq 7, 3) := fdd_d (by decide +kernel)
set_option maxRecDepth 100000 in
theorem xd_a50a6b5e : decode (ia_code 246) 171 = .ok (.aload_n 0, 1) := fdd_d (by decide +kernel)
set_option maxRecDepth 100000 in
theorem xd_90a0c610 : decode (ia_code 246) 172 = .ok (.ldc2_w 110, 3) := fdd_d (by decide +kernel)
set_option maxRecDepth 100000 in
theorem xl_724f2c1a : ia_pl (ia_cls 246) 110 = some (9, 1634298995, 0, 0, 1477) := by decide +kernel
set_option maxRecDepth 100000 in
theorem xd_1d62426c : decode (ia_code 246) 175 = .ok (.invokevirtual 210, 3) := fdd_d (by decide +kernel)
set_option maxRecDepth 100000 in
theorem xd_84e30e0b : decode (ia_code 246) 178 = .ok (.ifCond .eq 7, 3) := fdd_d (by decide +kernel)
set_option maxRecDepth 100000 in
theorem xd_4643c104 : decode (ia_code 246) 185 = .ok (.aload_n 0, 1) := fdd_d (by decide +kernel)
set_option maxRecDepth 100000 in
theorem xd_613d6430 : decode (ia_code 246) 186 = .ok (.ldc2_w 112, 3) := fdd_d (by decide +kernel)
set_option maxRecDepth 100000 in
theorem xl_f10ca7f7 : ia_pl (ia_cls 246) 112 = some (9, 469853168755, 0, 0, 1478) := by decide +kernel
set_option maxRecDepth 100000 in
theorem xd_0a438161 : decode (ia_code 246) 189 = .ok (.invokevirtual 210, 3) := fdd_d (by decide +kernel)
set_option maxRecDepth 100000 in
theorem xd_ba5be395 : decode (ia_code 246) 192 = .ok (.ifCond .eq 7, 3) := fdd_d (by decide +kernel)
set_option maxRecDepth 100000 in
theorem xd_7a2db423 : decode (ia_code 246) 199 = .ok (.iconst (-1), 1) := fdd_d (by decide +kernel)
set_option maxRecDepth 100000 in
theorem xd_740d9638 : decode (ia_code 246) 200 = .ok (.istore 4, 2) := fdd_d (by decide +kernel)
set_option maxRecDepth 100000 in
theorem xm_1e9e2bdd : ia_maxL 246 = 5 := by decide +kernel
set_option maxRecDepth 100000 in
theorem xd_1a8dfb48 : decode (ia_code 246) 202 = .ok (.iload 4, 2) := fdd_d (by decide +kernel)
set_option maxRecDepth 100000 in
theorem xd_45d1f509 : decode (ia_code 246) 204 = .ok (.ifCond .ge 9, 3) := fdd_d (by decide +kernel)
set_option maxRecDepth 100000 in
theorem xd_4c359800 : decode (ia_code 246) 207 = .ok (.aload_n 0, 1) := fdd_d (by decide +kernel)
set_option maxRecDepth 100000 in
theorem xd_454351f8 : decode (ia_code 246) 208 = .ok (.iconst 1, 1) := fdd_d (by decide +kernel)
set_option maxRecDepth 100000 in
theorem xl_e89d0391 : ia_pl (ia_cls 246) 176 = some (1, 94, 0, 0, 1675) := by decide +kernel
set_option maxRecDepth 100000 in
theorem xd_dab10800 : decode (ia_code 246) 209 = .ok (.invokevirtual 176, 3) := fdd_d (by decide +kernel)
set_option maxRecDepth 100000 in
theorem xd_4cd6212d : decode (ia_code 246) 212 = .ok (.ireturn, 1) := fdd_d (by decide +kernel)
set_option maxRecDepth 100000 in
theorem xr_453fe782 : ia_ret 246 = some .boolean := by decide +kernel
set_option maxRecDepth 100000 in
theorem xd_33fdfa32 : decode (ia_code 246) 195 = .ok (.iconst 2, 1) := fdd_d (by decide +kernel)
set_option maxRecDepth 100000 in
theorem xd_b5c6a4ee : decode (ia_code 246) 196 = .ok (.goto 4, 3) := fdd_d (by decide +kernel)
set_option maxRecDepth 100000 in
theorem xd_cd4c5cb4 : decode (ia_code 246) 213 = .ok (.aload_n 0, 1) := fdd_d (by decide +kernel)
set_option maxRecDepth 100000 in
theorem xd_02a3f770 : decode (ia_code 246) 214 = .ok (.getfield 40, 3) := fdd_d (by decide +kernel)
set_option maxRecDepth 100000 in
theorem xd_aa7307fa : decode (ia_code 246) 217 = .ok (.iload_n 1, 1) := fdd_d (by decide +kernel)
set_option maxRecDepth 100000 in
theorem xd_cc939783 : decode (ia_code 246) 218 = .ok (.iload 4, 2) := fdd_d (by decide +kernel)
set_option maxRecDepth 100000 in
theorem xd_36577e91 : decode (ia_code 246) 220 = .ok (.iastore, 1) := fdd_d (by decide +kernel)
set_option maxRecDepth 100000 in
theorem xd_78c42675 : decode (ia_code 246) 221 = .ok (.aload_n 0, 1) := fdd_d (by decide +kernel)
set_option maxRecDepth 100000 in
theorem xd_0433ed3f : decode (ia_code 246) 222 = .ok (.invokevirtual 179, 3) := fdd_d (by decide +kernel)
set_option maxRecDepth 100000 in
theorem xd_5d3ab490 : decode (ia_code 246) 225 = .ok (.iload 4, 2) := fdd_d (by decide +kernel)
set_option maxRecDepth 100000 in
theorem xd_f204df24 : decode (ia_code 246) 227 = .ok (.ifCond .le 5, 3) := fdd_d (by decide +kernel)
set_option maxRecDepth 100000 in
theorem xd_8ae54ec5 : decode (ia_code 246) 230 = .ok (.iconst 1, 1) := fdd_d (by decide +kernel)
set_option maxRecDepth 100000 in
theorem xd_19986a4e : decode (ia_code 246) 231 = .ok (.ireturn, 1) := fdd_d (by decide +kernel)
set_option maxRecDepth 100000 in
theorem xd_b38ff936 : decode (ia_code 246) 181 = .ok (.iconst 1, 1) := fdd_d (by decide +kernel)
set_option maxRecDepth 100000 in
theorem xd_f350e6fa : decode (ia_code 246) 182 = .ok (.goto 18, 3) := fdd_d (by decide +kernel)
set_option maxRecDepth 100000 in
theorem xd_116dbb5a : decode (ia_code 246) 167 = .ok (.iconst 0, 1) := fdd_d (by decide +kernel)
set_option maxRecDepth 100000 in
theorem xd_feac2bdb : decode (ia_code 246) 168 = .ok (.goto 32, 3) := fdd_d (by decide +kernel)
set_option maxRecDepth 100000 in
theorem xd_8f047a6f : decode (ia_code 246) 232 = .ok (.aload_n 0, 1) := fdd_d (by decide +kernel)
set_option maxRecDepth 100000 in
theorem xd_e1e360af : decode (ia_code 246) 233 = .ok (.bipush 6, 2) := fdd_d (by decide +kernel)
set_option maxRecDepth 100000 in
theorem xd_f9bde2c1 : decode (ia_code 246) 235 = .ok (.aload_n 0, 1) := fdd_d (by decide +kernel)
set_option maxRecDepth 100000 in
theorem xg_c2b3cd54 : sv_g sg 186 1 = (2147483648, 2147483652) := by decide +kernel
set_option maxRecDepth 100000 in
theorem xd_dd2ad02a : decode (ia_code 246) 236 = .ok (.getfield 33, 3) := fdd_d (by decide +kernel)
set_option maxRecDepth 100000 in
theorem xf_8e66127e : wk_gf 246 33 184 6 (186 + 3) = true := by decide +kernel
set_option maxRecDepth 100000 in
theorem xd_248e0c05 : decode (ia_code 246) 239 = .ok (.iconst 1, 1) := fdd_d (by decide +kernel)
set_option maxRecDepth 100000 in
theorem xd_1738af17 : decode (ia_code 246) 240 = .ok (.iaload, 1) := fdd_d (by decide +kernel)
set_option maxRecDepth 100000 in
theorem xl_78f6dfdc : ia_pl (ia_cls 246) 229 = some (1, 286, 0, 0, 1718) := by decide +kernel
set_option maxRecDepth 100000 in
theorem xn_fc82bc17 : ia_na 286 = 3 := by decide +kernel
set_option maxRecDepth 100000 in
theorem xc_e83768f1 : ia_mc 286 = 0 ∧ ia_ms 286 = 0 := ⟨by decide +kernel, by decide +kernel⟩
set_option maxRecDepth 100000 in
theorem xv_3626efb9 : cm_rcv 286 [.inr (.inr (some 184))] = true := by decide +kernel
set_option maxRecDepth 100000 in
theorem xd_3f71485d : decode (ia_code 246) 241 = .ok (.invokevirtual 229, 3) := fdd_d (by decide +kernel)
set_option maxRecDepth 100000 in
theorem xd_fe2f6866 : decode (ia_code 246) 244 = .ok (.ifCond .ne 5, 3) := fdd_d (by decide +kernel)
set_option maxRecDepth 100000 in
theorem xd_c8403703 : decode (ia_code 246) 249 = .ok (.aload_n 0, 1) := fdd_d (by decide +kernel)
set_option maxRecDepth 100000 in
theorem xd_d38a2b55 : decode (ia_code 246) 250 = .ok (.getfield 40, 3) := fdd_d (by decide +kernel)
set_option maxRecDepth 100000 in
theorem xd_c3293836 : decode (ia_code 246) 253 = .ok (.iload_n 1, 1) := fdd_d (by decide +kernel)
set_option maxRecDepth 100000 in
theorem xd_7c2ed56f : decode (ia_code 246) 254 = .ok (.iconst 2, 1) := fdd_d (by decide +kernel)
set_option maxRecDepth 100000 in
theorem xd_21ef0905 : decode (ia_code 246) 255 = .ok (.iadd, 1) := fdd_d (by decide +kernel)
set_option maxRecDepth 100000 in
theorem xd_3f6589ac : decode (ia_code 246) 256 = .ok (.aload_n 0, 1) := fdd_d (by decide +kernel)
set_option maxRecDepth 100000 in
theorem xd_23015934 : decode (ia_code 246) 257 = .ok (.getfield 186, 3) := fdd_d (by decide +kernel)
set_option maxRecDepth 100000 in
theorem xd_6af6ed91 : decode (ia_code 246) 260 = .ok (.iastore, 1) := fdd_d (by decide +kernel)
set_option maxRecDepth 100000 in
theorem xd_06e26142 : decode (ia_code 246) 261 = .ok (.iconst 1, 1) := fdd_d (by decide +kernel)
set_option maxRecDepth 100000 in
theorem xd_290f1f6d : decode (ia_code 246) 262 = .ok (.ireturn, 1) := fdd_d (by decide +kernel)
set_option maxRecDepth 100000 in
theorem xd_a4e5c19b : decode (ia_code 246) 247 = .ok (.iconst 0, 1) := fdd_d (by decide +kernel)
set_option maxRecDepth 100000 in
theorem xd_c669dee6 : decode (ia_code 246) 248 = .ok (.ireturn, 1) := fdd_d (by decide +kernel)
set_option maxRecDepth 100000 in
theorem xd_d606db61 : decode (ia_code 246) 124 = .ok (.aload_n 0, 1) := fdd_d (by decide +kernel)
set_option maxRecDepth 100000 in
theorem xd_e6eba745 : decode (ia_code 246) 125 = .ok (.getfield 40, 3) := fdd_d (by decide +kernel)
set_option maxRecDepth 100000 in
theorem xd_b180c309 : decode (ia_code 246) 128 = .ok (.iload_n 1, 1) := fdd_d (by decide +kernel)
set_option maxRecDepth 100000 in
theorem xd_2f03c089 : decode (ia_code 246) 129 = .ok (.iconst 4, 1) := fdd_d (by decide +kernel)
set_option maxRecDepth 100000 in
theorem xd_579a236c : decode (ia_code 246) 130 = .ok (.iastore, 1) := fdd_d (by decide +kernel)
set_option maxRecDepth 100000 in
theorem xd_cc0cf501 : decode (ia_code 246) 131 = .ok (.aload_n 0, 1) := fdd_d (by decide +kernel)
set_option maxRecDepth 100000 in
theorem xd_fcab2e6d : decode (ia_code 246) 132 = .ok (.iconst 1, 1) := fdd_d (by decide +kernel)
set_option maxRecDepth 100000 in
theorem xd_ba87e514 : decode (ia_code 246) 133 = .ok (.bipush 60, 2) := fdd_d (by decide +kernel)
set_option maxRecDepth 100000 in
theorem xl_03919e44 : ia_pl (ia_cls 246) 189 = some (1, 285, 0, 0, 1683) := by decide +kernel
set_option maxRecDepth 100000 in
theorem xn_bb22c6c7 : ia_na 285 = 3 := by decide +kernel
set_option maxRecDepth 100000 in
theorem xc_d9722b1c : ia_mc 285 = 0 ∧ ia_ms 285 = 0 := ⟨by decide +kernel, by decide +kernel⟩
set_option maxRecDepth 100000 in
theorem xv_6d315eac : cm_rcv 285 [.inr (.inr (some 184))] = true := by decide +kernel
set_option maxRecDepth 100000 in
theorem xd_771f7162 : decode (ia_code 246) 135 = .ok (.invokevirtual 189, 3) := fdd_d (by decide +kernel)
set_option maxRecDepth 100000 in
theorem xd_519992a5 : decode (ia_code 246) 138 = .ok (.ifCond .ne 5, 3) := fdd_d (by decide +kernel)
set_option maxRecDepth 100000 in
theorem xd_1082119f : decode (ia_code 246) 143 = .ok (.aload_n 0, 1) := fdd_d (by decide +kernel)
set_option maxRecDepth 100000 in
theorem xd_7cbeeafa : decode (ia_code 246) 144 = .ok (.getfield 40, 3) := fdd_d (by decide +kernel)
set_option maxRecDepth 100000 in
theorem xd_77bd4ad1 : decode (ia_code 246) 147 = .ok (.iload_n 1, 1) := fdd_d (by decide +kernel)
set_option maxRecDepth 100000 in
theorem xd_1d015943 : decode (ia_code 246) 148 = .ok (.iconst 1, 1) := fdd_d (by decide +kernel)
set_option maxRecDepth 100000 in
theorem xd_455dbd9d : decode (ia_code 246) 149 = .ok (.iadd, 1) := fdd_d (by decide +kernel)
set_option maxRecDepth 100000 in
theorem xd_e7424d85 : decode (ia_code 246) 150 = .ok (.aload_n 0, 1) := fdd_d (by decide +kernel)
set_option maxRecDepth 100000 in
theorem xd_1e0183a2 : decode (ia_code 246) 151 = .ok (.getfield 186, 3) := fdd_d (by decide +kernel)
set_option maxRecDepth 100000 in
theorem xd_37927d57 : decode (ia_code 246) 154 = .ok (.iastore, 1) := fdd_d (by decide +kernel)
set_option maxRecDepth 100000 in
theorem xd_74b86257 : decode (ia_code 246) 155 = .ok (.iconst 1, 1) := fdd_d (by decide +kernel)
set_option maxRecDepth 100000 in
theorem xd_746b8fab : decode (ia_code 246) 156 = .ok (.ireturn, 1) := fdd_d (by decide +kernel)
set_option maxRecDepth 100000 in
theorem xd_8e0a3233 : decode (ia_code 246) 141 = .ok (.iconst 0, 1) := fdd_d (by decide +kernel)
set_option maxRecDepth 100000 in
theorem xd_71baefd0 : decode (ia_code 246) 142 = .ok (.ireturn, 1) := fdd_d (by decide +kernel)
set_option maxRecDepth 100000 in
theorem xd_24050435 : decode (ia_code 246) 82 = .ok (.aload_n 0, 1) := fdd_d (by decide +kernel)
set_option maxRecDepth 100000 in
theorem xd_2e500253 : decode (ia_code 246) 83 = .ok (.getfield 40, 3) := fdd_d (by decide +kernel)
set_option maxRecDepth 100000 in
theorem xd_433a5f7b : decode (ia_code 246) 86 = .ok (.iload_n 1, 1) := fdd_d (by decide +kernel)
set_option maxRecDepth 100000 in
theorem xd_45bf20ca : decode (ia_code 246) 87 = .ok (.iconst 3, 1) := fdd_d (by decide +kernel)
set_option maxRecDepth 100000 in
theorem xd_2798cbc2 : decode (ia_code 246) 88 = .ok (.iastore, 1) := fdd_d (by decide +kernel)
set_option maxRecDepth 100000 in
theorem xd_52597e2e : decode (ia_code 246) 89 = .ok (.aload_n 0, 1) := fdd_d (by decide +kernel)
set_option maxRecDepth 100000 in
theorem xd_ceae41bf : decode (ia_code 246) 90 = .ok (.bipush 10, 2) := fdd_d (by decide +kernel)
set_option maxRecDepth 100000 in
theorem xd_a5206112 : decode (ia_code 246) 92 = .ok (.aload_n 0, 1) := fdd_d (by decide +kernel)
set_option maxRecDepth 100000 in
theorem xd_93e8eeac : decode (ia_code 246) 93 = .ok (.getfield 33, 3) := fdd_d (by decide +kernel)
set_option maxRecDepth 100000 in
theorem xd_f484876e : decode (ia_code 246) 96 = .ok (.iconst 2, 1) := fdd_d (by decide +kernel)
set_option maxRecDepth 100000 in
theorem xd_ccfe56b5 : decode (ia_code 246) 97 = .ok (.iaload, 1) := fdd_d (by decide +kernel)
set_option maxRecDepth 100000 in
theorem xd_bbfcc861 : decode (ia_code 246) 98 = .ok (.invokevirtual 229, 3) := fdd_d (by decide +kernel)
set_option maxRecDepth 100000 in
theorem xd_5039344d : decode (ia_code 246) 101 = .ok (.ifCond .ne 5, 3) := fdd_d (by decide +kernel)
set_option maxRecDepth 100000 in
theorem xd_e2abc487 : decode (ia_code 246) 106 = .ok (.aload_n 0, 1) := fdd_d (by decide +kernel)
set_option maxRecDepth 100000 in
theorem xd_63c7ca77 : decode (ia_code 246) 107 = .ok (.getfield 40, 3) := fdd_d (by decide +kernel)
set_option maxRecDepth 100000 in
theorem xd_e9272907 : decode (ia_code 246) 110 = .ok (.iload_n 1, 1) := fdd_d (by decide +kernel)
set_option maxRecDepth 100000 in
theorem xd_284550c4 : decode (ia_code 246) 111 = .ok (.iconst 1, 1) := fdd_d (by decide +kernel)
set_option maxRecDepth 100000 in
theorem xd_86004349 : decode (ia_code 246) 112 = .ok (.iadd, 1) := fdd_d (by decide +kernel)
set_option maxRecDepth 100000 in
theorem xd_f8a1eae7 : decode (ia_code 246) 113 = .ok (.aload_n 0, 1) := fdd_d (by decide +kernel)
set_option maxRecDepth 100000 in
theorem xd_b2c9d8ae : decode (ia_code 246) 114 = .ok (.getfield 186, 3) := fdd_d (by decide +kernel)
set_option maxRecDepth 100000 in
theorem xd_102d6cb4 : decode (ia_code 246) 117 = .ok (.iastore, 1) := fdd_d (by decide +kernel)
set_option maxRecDepth 100000 in
theorem xd_862e1204 : decode (ia_code 246) 118 = .ok (.iconst 1, 1) := fdd_d (by decide +kernel)
set_option maxRecDepth 100000 in
theorem xd_64df9385 : decode (ia_code 246) 119 = .ok (.ireturn, 1) := fdd_d (by decide +kernel)
set_option maxRecDepth 100000 in
theorem xd_c5df6460 : decode (ia_code 246) 104 = .ok (.iconst 0, 1) := fdd_d (by decide +kernel)
set_option maxRecDepth 100000 in
theorem xd_44fcfa88 : decode (ia_code 246) 105 = .ok (.ireturn, 1) := fdd_d (by decide +kernel)
set_option maxRecDepth 100000 in
theorem xd_1e776260 : decode (ia_code 246) 56 = .ok (.aload_n 0, 1) := fdd_d (by decide +kernel)
set_option maxRecDepth 100000 in
theorem xd_6c09f4bb : decode (ia_code 246) 57 = .ok (.iconst 4, 1) := fdd_d (by decide +kernel)
set_option maxRecDepth 100000 in
theorem xd_ca17fae0 : decode (ia_code 246) 58 = .ok (.invokevirtual 176, 3) := fdd_d (by decide +kernel)
set_option maxRecDepth 100000 in
theorem xd_f13fce2b : decode (ia_code 246) 61 = .ok (.ireturn, 1) := fdd_d (by decide +kernel)
set_option maxRecDepth 100000 in
theorem xd_6e67dde0 : decode (ia_code 246) 0 = .ok (.iconst 3, 1) := fdd_d (by decide +kernel)
set_option maxRecDepth 100000 in
theorem xd_ffc9b48d : decode (ia_code 246) 1 = .ok (.aload_n 0, 1) := fdd_d (by decide +kernel)
set_option maxRecDepth 100000 in
theorem xd_9c4f08dd : decode (ia_code 246) 2 = .ok (.getfield 394, 3) := fdd_d (by decide +kernel)
set_option maxRecDepth 100000 in
theorem xd_54fdbf5a : decode (ia_code 246) 5 = .ok (.imul, 1) := fdd_d (by decide +kernel)
set_option maxRecDepth 100000 in
theorem xd_3fff20b8 : decode (ia_code 246) 6 = .ok (.istore_n 1, 1) := fdd_d (by decide +kernel)
set_option maxRecDepth 100000 in
theorem xd_1203c6f7 : decode (ia_code 246) 7 = .ok (.aload_n 0, 1) := fdd_d (by decide +kernel)
set_option maxRecDepth 100000 in
theorem xd_7196d0d0 : decode (ia_code 246) 8 = .ok (.ldc2_w 114, 3) := fdd_d (by decide +kernel)
set_option maxRecDepth 100000 in
theorem xl_94b0da36 : ia_pl (ia_cls 246) 114 = some (9, 1835361652, 0, 0, 1479) := by decide +kernel
set_option maxRecDepth 100000 in
theorem xd_aab442b3 : decode (ia_code 246) 11 = .ok (.invokevirtual 210, 3) := fdd_d (by decide +kernel)
set_option maxRecDepth 100000 in
theorem xd_b59bcbf8 : decode (ia_code 246) 14 = .ok (.istore_n 2, 1) := fdd_d (by decide +kernel)
set_option maxRecDepth 100000 in
theorem xd_0194c502 : decode (ia_code 246) 15 = .ok (.aload_n 0, 1) := fdd_d (by decide +kernel)
set_option maxRecDepth 100000 in
theorem xd_7d99b0c1 : decode (ia_code 246) 16 = .ok (.ldc2_w 116, 3) := fdd_d (by decide +kernel)
set_option maxRecDepth 100000 in
theorem xl_46279b00 : ia_pl (ia_cls 246) 116 = some (9, 1752135026, 0, 0, 1480) := by decide +kernel
set_option maxRecDepth 100000 in
theorem xd_dd8b043b : decode (ia_code 246) 19 = .ok (.invokevirtual 210, 3) := fdd_d (by decide +kernel)
set_option maxRecDepth 100000 in
theorem xd_0d2b064b : decode (ia_code 246) 22 = .ok (.istore_n 3, 1) := fdd_d (by decide +kernel)
set_option maxRecDepth 100000 in
theorem xd_94839e5d : decode (ia_code 246) 23 = .ok (.iload_n 2, 1) := fdd_d (by decide +kernel)
set_option maxRecDepth 100000 in
theorem xd_87bcf479 : decode (ia_code 246) 24 = .ok (.ifCond .ne 23, 3) := fdd_d (by decide +kernel)
set_option maxRecDepth 100000 in
theorem xd_a9bf167e : decode (ia_code 246) 27 = .ok (.iload_n 3, 1) := fdd_d (by decide +kernel)
set_option maxRecDepth 100000 in
theorem xd_e85b23b9 : decode (ia_code 246) 28 = .ok (.ifCond .ne 19, 3) := fdd_d (by decide +kernel)
set_option maxRecDepth 100000 in
theorem xd_d8f3a89e : decode (ia_code 246) 31 = .ok (.aload_n 0, 1) := fdd_d (by decide +kernel)
set_option maxRecDepth 100000 in
theorem xd_3fcad7c1 : decode (ia_code 246) 32 = .ok (.iconst 0, 1) := fdd_d (by decide +kernel)
set_option maxRecDepth 100000 in
theorem xd_35657b77 : decode (ia_code 246) 33 = .ok (.aload_n 0, 1) := fdd_d (by decide +kernel)
set_option maxRecDepth 100000 in
theorem xd_1ddb74d7 : decode (ia_code 246) 34 = .ok (.getfield 33, 3) := fdd_d (by decide +kernel)
set_option maxRecDepth 100000 in
theorem xd_74432001 : decode (ia_code 246) 37 = .ok (.iconst 0, 1) := fdd_d (by decide +kernel)
set_option maxRecDepth 100000 in
theorem xd_71572e9f : decode (ia_code 246) 38 = .ok (.iaload, 1) := fdd_d (by decide +kernel)
set_option maxRecDepth 100000 in
theorem xl_d3d45156 : ia_pl (ia_cls 246) 201 = some (1, 274, 0, 0, 1710) := by decide +kernel
set_option maxRecDepth 100000 in
theorem xd_1372f33b : decode (ia_code 246) 39 = .ok (.invokevirtual 201, 3) := fdd_d (by decide +kernel)
set_option maxRecDepth 100000 in
theorem xd_177781bd : decode (ia_code 246) 42 = .ok (.ifCond .ne 5, 3) := fdd_d (by decide +kernel)
set_option maxRecDepth 100000 in
theorem xd_2caa712f : decode (ia_code 246) 45 = .ok (.iconst 0, 1) := fdd_d (by decide +kernel)
set_option maxRecDepth 100000 in
theorem xd_b68881f3 : decode (ia_code 246) 46 = .ok (.ireturn, 1) := fdd_d (by decide +kernel)
set_option maxRecDepth 100000 in
theorem xg_a22dd548 : sv_g sg 186 100 = (2147483648, 2147483653) := by decide +kernel
set_option maxRecDepth 100000 in
theorem xs_250_d147f360 {a1 : Int32} {a2 : Int32} {a3 : Int32} {w : cm_W} (h1 : 0 ≤ a1.toInt ∧ a1.toInt ≤ 0) (h2 : 0 ≤ a2.toInt ∧ a2.toInt ≤ 5) (h3 : 0 ≤ a3.toInt ∧ a3.toInt ≤ 0) (hG : sv_w sg w) : ∃ x : Int32, ∃ w' : cm_W, cm_C 4 250 [.inr (.inr (some 184)), .inl a1, .inl a2, .inl a3] w (some (.inl x), w') ∧ sv_w sg w' ∧ (∀ k i, ¬ ((k = 186 ∧ 82 ≤ i ∧ i ≤ 87) ∨ (k = 186 ∧ 94 ≤ i ∧ i ≤ 100)) → w'.1 k i = w.1 k i ∧ w'.2 k i = w.2 k i) ∧ ((0 ≤ x.toInt ∧ x.toInt ≤ 3)) := by
  obtain ⟨r, w', hC, hG', hF, q, hq, hr, hp, hs⟩ := wk_use (d := 4) sm_250_d147f360_ok (by decide) (as := [.inr (.inr (some 184)), .inl a1, .inl a2, .inl a3]) (w := w) ⟨rfl, hb_mk (lo := 2147483648) (hi := 2147483648) (by have := h1.1; omega) (by have := h1.2; omega), hb_mk (lo := 2147483648) (hi := 2147483653) (by have := h2.1; omega) (by have := h2.2; omega), hb_mk (lo := 2147483648) (hi := 2147483648) (by have := h3.1; omega) (by have := h3.2; omega), trivial⟩ (fun f hf => by
    rcases List.mem_cons.mp hf with rfl | hf
    · exact ⟨(by have h9 := hG 186 100; rw [xg_a22dd548] at h9; exact h9), .inl rfl, .inl rfl⟩
    cases hf) hG
  have hfr : ∀ k i, ¬ ((k = 186 ∧ 82 ≤ i ∧ i ≤ 87) ∨ (k = 186 ∧ 94 ≤ i ∧ i ≤ 100)) → w'.1 k i = w.1 k i ∧ w'.2 k i = w.2 k i := fun k i hki => hF k i (fun ⟨r, z, z1, z2, z3⟩ => by
    simp only [sm_250_d147f360, List.mem_cons, List.not_mem_nil, or_false] at z
    rcases z with rfl | rfl
    all_goals (simp only at z1 z2 z3; omega))
  simp only [sm_250_d147f360, List.mem_cons, List.not_mem_nil, or_false] at hq
  rcases hq with rfl
  · obtain ⟨x, rfl, hx⟩ := wk_int hr
    have hx := hb_in hx
    exact ⟨x, w', hC, hG', hfr, ⟨by omega, by omega⟩⟩
set_option maxRecDepth 100000 in
theorem xg_a3982855 : sv_g sg 186 101 = (2147483648, 2147483653) := by decide +kernel
set_option maxRecDepth 100000 in
theorem xs_250_e2c23f66 {a1 : Int32} {a2 : Int32} {a3 : Int32} {w : cm_W} (h1 : 0 ≤ a1.toInt ∧ a1.toInt ≤ 0) (h2 : 0 ≤ a2.toInt ∧ a2.toInt ≤ 5) (h3 : 1 ≤ a3.toInt ∧ a3.toInt ≤ 1) (hG : sv_w sg w) : ∃ x : Int32, ∃ w' : cm_W, cm_C 4 250 [.inr (.inr (some 184)), .inl a1, .inl a2, .inl a3] w (some (.inl x), w') ∧ sv_w sg w' ∧ (∀ k i, ¬ ((k = 186 ∧ 82 ≤ i ∧ i ≤ 87) ∨ (k = 186 ∧ 94 ≤ i ∧ i ≤ 99) ∨ (k = 186 ∧ i = 101)) → w'.1 k i = w.1 k i ∧ w'.2 k i = w.2 k i) ∧ ((0 ≤ x.toInt ∧ x.toInt ≤ 3)) := by
  obtain ⟨r, w', hC, hG', hF, q, hq, hr, hp, hs⟩ := wk_use (d := 4) sm_250_e2c23f66_ok (by decide) (as := [.inr (.inr (some 184)), .inl a1, .inl a2, .inl a3]) (w := w) ⟨rfl, hb_mk (lo := 2147483648) (hi := 2147483648) (by have := h1.1; omega) (by have := h1.2; omega), hb_mk (lo := 2147483648) (hi := 2147483653) (by have := h2.1; omega) (by have := h2.2; omega), hb_mk (lo := 2147483649) (hi := 2147483649) (by have := h3.1; omega) (by have := h3.2; omega), trivial⟩ (fun f hf => by
    rcases List.mem_cons.mp hf with rfl | hf
    · exact ⟨(by have h9 := hG 186 101; rw [xg_a3982855] at h9; exact h9), .inl rfl, .inl rfl⟩
    cases hf) hG
  have hfr : ∀ k i, ¬ ((k = 186 ∧ 82 ≤ i ∧ i ≤ 87) ∨ (k = 186 ∧ 94 ≤ i ∧ i ≤ 99) ∨ (k = 186 ∧ i = 101)) → w'.1 k i = w.1 k i ∧ w'.2 k i = w.2 k i := fun k i hki => hF k i (fun ⟨r, z, z1, z2, z3⟩ => by
    simp only [sm_250_e2c23f66, List.mem_cons, List.not_mem_nil, or_false] at z
    rcases z with rfl | rfl | rfl
    all_goals (simp only at z1 z2 z3; omega))
  simp only [sm_250_e2c23f66, List.mem_cons, List.not_mem_nil, or_false] at hq
  rcases hq with rfl
  · obtain ⟨x, rfl, hx⟩ := wk_int hr
    have hx := hb_in hx
    exact ⟨x, w', hC, hG', hfr, ⟨by omega, by omega⟩⟩
set_option maxRecDepth 100000 in
theorem xg_a1462f72 : sv_g sg 186 102 = (2147483648, 2147483653) := by decide +kernel
set_option maxRecDepth 100000 in
theorem xs_250_f4f7cd0b {a1 : Int32} {a2 : Int32} {a3 : Int32} {w : cm_W} (h1 : 0 ≤ a1.toInt ∧ a1.toInt ≤ 0) (h2 : 0 ≤ a2.toInt ∧ a2.toInt ≤ 5) (h3 : 2 ≤ a3.toInt ∧ a3.toInt ≤ 2) (hG : sv_w sg w) : ∃ x : Int32, ∃ w' : cm_W, cm_C 4 250 [.inr (.inr (some 184)), .inl a1, .inl a2, .inl a3] w (some (.inl x), w') ∧ sv_w sg w' ∧ (∀ k i, ¬ ((k = 186 ∧ 82 ≤ i ∧ i ≤ 87) ∨ (k = 186 ∧ 94 ≤ i ∧ i ≤ 99) ∨ (k = 186 ∧ i = 102)) → w'.1 k i = w.1 k i ∧ w'.2 k i = w.2 k i) ∧ ((0 ≤ x.toInt ∧ x.toInt ≤ 3)) := by
  obtain ⟨r, w', hC, hG', hF, q, hq, hr, hp, hs⟩ := wk_use (d := 4) sm_250_f4f7cd0b_ok (by decide) (as := [.inr (.inr (some 184)), .inl a1, .inl a2, .inl a3]) (w := w) ⟨rfl, hb_mk (lo := 2147483648) (hi := 2147483648) (by have := h1.1; omega) (by have := h1.2; omega), hb_mk (lo := 2147483648) (hi := 2147483653) (by have := h2.1; omega) (by have := h2.2; omega), hb_mk (lo := 2147483650) (hi := 2147483650) (by have := h3.1; omega) (by have := h3.2; omega), trivial⟩ (fun f hf => by
    rcases List.mem_cons.mp hf with rfl | hf
    · exact ⟨(by have h9 := hG 186 102; rw [xg_a1462f72] at h9; exact h9), .inl rfl, .inl rfl⟩
    cases hf) hG
  have hfr : ∀ k i, ¬ ((k = 186 ∧ 82 ≤ i ∧ i ≤ 87) ∨ (k = 186 ∧ 94 ≤ i ∧ i ≤ 99) ∨ (k = 186 ∧ i = 102)) → w'.1 k i = w.1 k i ∧ w'.2 k i = w.2 k i := fun k i hki => hF k i (fun ⟨r, z, z1, z2, z3⟩ => by
    simp only [sm_250_f4f7cd0b, List.mem_cons, List.not_mem_nil, or_false] at z
    rcases z with rfl | rfl | rfl
    all_goals (simp only at z1 z2 z3; omega))
  simp only [sm_250_f4f7cd0b, List.mem_cons, List.not_mem_nil, or_false] at hq
  rcases hq with rfl
  · obtain ⟨x, rfl, hx⟩ := wk_int hr
    have hx := hb_in hx
    exact ⟨x, w', hC, hG', hfr, ⟨by omega, by omega⟩⟩
set_option maxRecDepth 100000 in
theorem xg_a0f3d26f : sv_g sg 186 103 = (2147483648, 2147483653) := by decide +kernel
set_option maxRecDepth 100000 in
theorem xs_250_c772010d {a1 : Int32} {a2 : Int32} {a3 : Int32} {w : cm_W} (h1 : 0 ≤ a1.toInt ∧ a1.toInt ≤ 0) (h2 : 0 ≤ a2.toInt ∧ a2.toInt ≤ 5) (h3 : 3 ≤ a3.toInt ∧ a3.toInt ≤ 3) (hG : sv_w sg w) : ∃ x : Int32, ∃ w' : cm_W, cm_C 4 250 [.inr (.inr (some 184)), .inl a1, .inl a2, .inl a3] w (some (.inl x), w') ∧ sv_w sg w' ∧ (∀ k i, ¬ ((k = 186 ∧ 82 ≤ i ∧ i ≤ 87) ∨ (k = 186 ∧ 94 ≤ i ∧ i ≤ 99) ∨ (k = 186 ∧ i = 103)) → w'.1 k i = w.1 k i ∧ w'.2 k i = w.2 k i) ∧ ((0 ≤ x.toInt ∧ x.toInt ≤ 3)) := by
  obtain ⟨r, w', hC, hG', hF, q, hq, hr, hp, hs⟩ := wk_use (d := 4) sm_250_c772010d_ok (by decide) (as := [.inr (.inr (some 184)), .inl a1, .inl a2, .inl a3]) (w := w) ⟨rfl, hb_mk (lo := 2147483648) (hi := 2147483648) (by have := h1.1; omega) (by have := h1.2; omega), hb_mk (lo := 2147483648) (hi := 2147483653) (by have := h2.1; omega) (by have := h2.2; omega), hb_mk (lo := 2147483651) (hi := 2147483651) (by have := h3.1; omega) (by have := h3.2; omega), trivial⟩ (fun f hf => by
    rcases List.mem_cons.mp hf with rfl | hf
    · exact ⟨(by have h9 := hG 186 103; rw [xg_a0f3d26f] at h9; exact h9), .inl rfl, .inl rfl⟩
    cases hf) hG
  have hfr : ∀ k i, ¬ ((k = 186 ∧ 82 ≤ i ∧ i ≤ 87) ∨ (k = 186 ∧ 94 ≤ i ∧ i ≤ 99) ∨ (k = 186 ∧ i = 103)) → w'.1 k i = w.1 k i ∧ w'.2 k i = w.2 k i := fun k i hki => hF k i (fun ⟨r, z, z1, z2, z3⟩ => by
    simp only [sm_250_c772010d, List.mem_cons, List.not_mem_nil, or_false] at z
    rcases z with rfl | rfl | rfl
    all_goals (simp only at z1 z2 z3; omega))
  simp only [sm_250_c772010d, List.mem_cons, List.not_mem_nil, or_false] at hq
  rcases hq with rfl
  · obtain ⟨x, rfl, hx⟩ := wk_int hr
    have hx := hb_in hx
    exact ⟨x, w', hC, hG', hfr, ⟨by omega, by omega⟩⟩
set_option maxRecDepth 100000 in
theorem xs_250_4d7bb1cf {a1 : Int32} {a2 : Int32} {a3 : Int32} {w : cm_W} (h1 : 1 ≤ a1.toInt ∧ a1.toInt ≤ 1) (h2 : 0 ≤ a2.toInt ∧ a2.toInt ≤ 5) (hG : sv_w sg w) : ∃ x : Int32, ∃ w' : cm_W, cm_C 3 250 [.inr (.inr (some 184)), .inl a1, .inl a2, .inl a3] w (some (.inl x), w') ∧ sv_w sg w' ∧ (∀ k i, ¬ ((k = 186 ∧ i = 80)) → w'.1 k i = w.1 k i ∧ w'.2 k i = w.2 k i) ∧ ((0 ≤ x.toInt ∧ x.toInt ≤ 11)) := by
  obtain ⟨r, w', hC, hG', hF, q, hq, hr, hp, hs⟩ := wk_use (d := 3) sm_250_4d7bb1cf_ok (by decide) (as := [.inr (.inr (some 184)), .inl a1, .inl a2, .inl a3]) (w := w) ⟨rfl, hb_mk (lo := 2147483649) (hi := 2147483649) (by have := h1.1; omega) (by have := h1.2; omega), hb_mk (lo := 2147483648) (hi := 2147483653) (by have := h2.1; omega) (by have := h2.2; omega), sv_in_top _, trivial⟩ (fun f hf => by
    cases hf) hG
  have hfr : ∀ k i, ¬ ((k = 186 ∧ i = 80)) → w'.1 k i = w.1 k i ∧ w'.2 k i = w.2 k i := fun k i hki => hF k i (fun ⟨r, z, z1, z2, z3⟩ => by
    simp only [sm_250_4d7bb1cf, List.mem_cons, List.not_mem_nil, or_false] at z
    rcases z with rfl
    all_goals (simp only at z1 z2 z3; omega))
  simp only [sm_250_4d7bb1cf, List.mem_cons, List.not_mem_nil, or_false] at hq
  rcases hq with rfl
  · obtain ⟨x, rfl, hx⟩ := wk_int hr
    have hx := hb_in hx
    exact ⟨x, w', hC, hG', hfr, ⟨by omega, by omega⟩⟩
set_option maxRecDepth 100000 in
theorem xs_250_6bfd018f {a1 : Int32} {a2 : Int32} {a3 : Int32} {w : cm_W} (h1 : 2 ≤ a1.toInt ∧ a1.toInt ≤ 2) (h2 : 0 ≤ a2.toInt ∧ a2.toInt ≤ 5) (hG : sv_w sg w) : ∃ x : Int32, ∃ w' : cm_W, cm_C 3 250 [.inr (.inr (some 184)), .inl a1, .inl a2, .inl a3] w (some (.inl x), w') ∧ sv_w sg w' ∧ (∀ k i, ¬ ((k = 186 ∧ i = 80)) → w'.1 k i = w.1 k i ∧ w'.2 k i = w.2 k i) ∧ ((0 ≤ x.toInt ∧ x.toInt ≤ 21)) := by
  obtain ⟨r, w', hC, hG', hF, q, hq, hr, hp, hs⟩ := wk_use (d := 3) sm_250_6bfd018f_ok (by decide) (as := [.inr (.inr (some 184)), .inl a1, .inl a2, .inl a3]) (w := w) ⟨rfl, hb_mk (lo := 2147483650) (hi := 2147483650) (by have := h1.1; omega) (by have := h1.2; omega), hb_mk (lo := 2147483648) (hi := 2147483653) (by have := h2.1; omega) (by have := h2.2; omega), sv_in_top _, trivial⟩ (fun f hf => by
    cases hf) hG
  have hfr : ∀ k i, ¬ ((k = 186 ∧ i = 80)) → w'.1 k i = w.1 k i ∧ w'.2 k i = w.2 k i := fun k i hki => hF k i (fun ⟨r, z, z1, z2, z3⟩ => by
    simp only [sm_250_6bfd018f, List.mem_cons, List.not_mem_nil, or_false] at z
    rcases z with rfl
    all_goals (simp only at z1 z2 z3; omega))
  simp only [sm_250_6bfd018f, List.mem_cons, List.not_mem_nil, or_false] at hq
  rcases hq with rfl
  · obtain ⟨x, rfl, hx⟩ := wk_int hr
    have hx := hb_in hx
    exact ⟨x, w', hC, hG', hfr, ⟨by omega, by omega⟩⟩
set_option maxRecDepth 100000 in
theorem xs_250_a37fbfde {a1 : Int32} {a2 : Int32} {a3 : Int32} {w : cm_W} (h1 : 3 ≤ a1.toInt ∧ a1.toInt ≤ 3) (h2 : 0 ≤ a2.toInt ∧ a2.toInt ≤ 5) (hG : sv_w sg w) : ∃ x : Int32, ∃ w' : cm_W, cm_C 4 250 [.inr (.inr (some 184)), .inl a1, .inl a2, .inl a3] w (some (.inl x), w') ∧ sv_w sg w' ∧ (∀ k i, ¬ ((k = 186 ∧ 104 ≤ i ∧ i ≤ 109)) → w'.1 k i = w.1 k i ∧ w'.2 k i = w.2 k i) ∧ ((0 ≤ x.toInt ∧ x.toInt ≤ 33)) := by
  obtain ⟨r, w', hC, hG', hF, q, hq, hr, hp, hs⟩ := wk_use (d := 4) sm_250_a37fbfde_ok (by decide) (as := [.inr (.inr (some 184)), .inl a1, .inl a2, .inl a3]) (w := w) ⟨rfl, hb_mk (lo := 2147483651) (hi := 2147483651) (by have := h1.1; omega) (by have := h1.2; omega), hb_mk (lo := 2147483648) (hi := 2147483653) (by have := h2.1; omega) (by have := h2.2; omega), sv_in_top _, trivial⟩ (fun f hf => by
    cases hf) hG
  have hfr : ∀ k i, ¬ ((k = 186 ∧ 104 ≤ i ∧ i ≤ 109)) → w'.1 k i = w.1 k i ∧ w'.2 k i = w.2 k i := fun k i hki => hF k i (fun ⟨r, z, z1, z2, z3⟩ => by
    simp only [sm_250_a37fbfde, List.mem_cons, List.not_mem_nil, or_false] at z
    rcases z with rfl
    all_goals (simp only at z1 z2 z3; omega))
  simp only [sm_250_a37fbfde, List.mem_cons, List.not_mem_nil, or_false] at hq
  rcases hq with rfl
  · obtain ⟨x, rfl, hx⟩ := wk_int hr
    have hx := hb_in hx
    exact ⟨x, w', hC, hG', hfr, ⟨by omega, by omega⟩⟩
set_option maxRecDepth 100000 in
theorem xs_250_781c3aa0 {a1 : Int32} {a2 : Int32} {a3 : Int32} {w : cm_W} (h1 : 4 ≤ a1.toInt ∧ a1.toInt ≤ 4) (h2 : 1 ≤ a2.toInt ∧ a2.toInt ≤ 60) (hG : sv_w sg w) : ∃ x : Int32, ∃ w' : cm_W, cm_C 6 250 [.inr (.inr (some 184)), .inl a1, .inl a2, .inl a3] w (some (.inl x), w') ∧ sv_w sg w' ∧ (∀ k i, ¬ ((k = 186 ∧ i = 79) ∨ (k = 186 ∧ 81 ≤ i ∧ i ≤ 93) ∨ (k = 186 ∧ 110 ≤ i ∧ i ≤ 119)) → w'.1 k i = w.1 k i ∧ w'.2 k i = w.2 k i) ∧ ((0 ≤ x.toInt ∧ x.toInt ≤ 41)) := by
  obtain ⟨r, w', hC, hG', hF, q, hq, hr, hp, hs⟩ := wk_use (d := 6) sm_250_781c3aa0_ok (by decide) (as := [.inr (.inr (some 184)), .inl a1, .inl a2, .inl a3]) (w := w) ⟨rfl, hb_mk (lo := 2147483652) (hi := 2147483652) (by have := h1.1; omega) (by have := h1.2; omega), hb_mk (lo := 2147483649) (hi := 2147483708) (by have := h2.1; omega) (by have := h2.2; omega), sv_in_top _, trivial⟩ (fun f hf => by
    cases hf) hG
  have hfr : ∀ k i, ¬ ((k = 186 ∧ i = 79) ∨ (k = 186 ∧ 81 ≤ i ∧ i ≤ 93) ∨ (k = 186 ∧ 110 ≤ i ∧ i ≤ 119)) → w'.1 k i = w.1 k i ∧ w'.2 k i = w.2 k i := fun k i hki => hF k i (fun ⟨r, z, z1, z2, z3⟩ => by
    simp only [sm_250_781c3aa0, List.mem_cons, List.not_mem_nil, or_false] at z
    rcases z with rfl | rfl | rfl
    all_goals (simp only at z1 z2 z3; omega))
  simp only [sm_250_781c3aa0, List.mem_cons, List.not_mem_nil, or_false] at hq
  rcases hq with rfl
  · obtain ⟨x, rfl, hx⟩ := wk_int hr
    have hx := hb_in hx
    exact ⟨x, w', hC, hG', hfr, ⟨by omega, by omega⟩⟩
theorem jnx_ok {w : cm_W} (hG : sv_w sg w) : ∃ w' : cm_W, cm_C 2 129 [.inr (.inr (some 184))] w (none, w') ∧ sv_w sg w' ∧ (∀ k i, ¬ (k = 184 ∧ (i = 4 ∨ (11 ≤ i ∧ i ≤ 18))) → w'.1 k i = w.1 k i) ∧ (w'.1 184 18 = w.1 184 18) ∧ (w.1 184 4).toInt ≤ (w'.1 184 4).toInt ∧ ((w'.1 184 11).toInt = 3 → (w.1 184 4).toInt + 1 ≤ (w'.1 184 4).toInt) := by
  obtain ⟨w', hC, hG', hF, hx⟩ := xs_129_f2ad130c_8f13 (w := w) hG
  exact ⟨w', hC, hG', fun k i hki => (hF k i (by omega)).1, (hF 184 18 (by omega)).1, by omega, by omega⟩
theorem jtn_ok {w : cm_W} {a b : Int32} (ha : a.toInt = 10) (hb : 0 ≤ b.toInt ∧ b.toInt ≤ 6) (hG : sv_w sg w) : ∃ x : Int32, ∃ w' : cm_W, cm_C 3 286 [.inr (.inr (some 184)), .inl a, .inl b] w (some (.inl x), w') ∧ sv_w sg w' ∧ (∀ k i, ¬ (k = 184 ∧ (i = 4 ∨ (11 ≤ i ∧ i ≤ 18))) → w'.1 k i = w.1 k i) ∧ (w.1 184 4).toInt ≤ (w'.1 184 4).toInt ∧ (x.toInt = 0 ∨ (x.toInt = 1 ∧ 0 ≤ (w'.1 184 18).toInt ∧ (w'.1 184 18).toInt ≤ 5 ∧ ((w'.1 184 11).toInt = 3 → (w.1 184 4).toInt + 1 ≤ (w'.1 184 4).toInt))) := by
  obtain ⟨x, w', hC, hG', hF, hx⟩ := xs_286_22cf966a_3442 (a1 := a) (a2 := b) (w := w) ⟨by omega, by omega⟩ hb hG
  exact ⟨x, w', hC, hG', fun k i hki => (hF k i (by omega)).1, by omega, by omega⟩
theorem jtf_ok {w : cm_W} {a b : Int32} (ha : a.toInt = 6) (hb : 0 ≤ b.toInt ∧ b.toInt ≤ 4) (hG : sv_w sg w) : ∃ x : Int32, ∃ w' : cm_W, cm_C 3 286 [.inr (.inr (some 184)), .inl a, .inl b] w (some (.inl x), w') ∧ sv_w sg w' ∧ (∀ k i, ¬ (k = 184 ∧ (i = 4 ∨ (11 ≤ i ∧ i ≤ 18))) → w'.1 k i = w.1 k i) ∧ (w.1 184 4).toInt ≤ (w'.1 184 4).toInt ∧ (x.toInt = 0 ∨ (x.toInt = 1 ∧ 0 ≤ (w'.1 184 18).toInt ∧ (w'.1 184 18).toInt ≤ 3 ∧ ((w'.1 184 11).toInt = 3 → (w.1 184 4).toInt + 1 ≤ (w'.1 184 4).toInt))) := by
  obtain ⟨x, w', hC, hG', hF, hx⟩ := xs_286_fe5cf7a3_3442 (a1 := a) (a2 := b) (w := w) ⟨by omega, by omega⟩ hb hG
  exact ⟨x, w', hC, hG', fun k i hki => (hF k i (by omega)).1, by omega, by omega⟩
theorem jtk_ok {w : cm_W} {a b : Int32} (ha : a.toInt = 1) (hb : b.toInt = 60) (hG : sv_w sg w) : ∃ x : Int32, ∃ w' : cm_W, cm_C 3 285 [.inr (.inr (some 184)), .inl a, .inl b] w (some (.inl x), w') ∧ sv_w sg w' ∧ (∀ k i, ¬ (k = 184 ∧ (i = 4 ∨ (11 ≤ i ∧ i ≤ 18))) → w'.1 k i = w.1 k i) ∧ (w.1 184 4).toInt ≤ (w'.1 184 4).toInt ∧ (x.toInt = 0 ∨ (x.toInt = 1 ∧ 1 ≤ (w'.1 184 18).toInt ∧ (w'.1 184 18).toInt ≤ 60 ∧ ((w'.1 184 11).toInt = 3 → (w.1 184 4).toInt + 1 ≤ (w'.1 184 4).toInt))) := by
  obtain ⟨x, w', hC, hG', hF, hx⟩ := xs_285_0c383f3f_3442 (a1 := a) (a2 := b) (w := w) ⟨by omega, by omega⟩ ⟨by omega, by omega⟩ hG
  exact ⟨x, w', hC, hG', fun k i hki => (hF k i (by omega)).1, by omega, by omega⟩
theorem jlk_ok {w : cm_W} {a b : Int32} (ha : a.toInt = 0) (hb : 0 ≤ b.toInt ∧ b.toInt ≤ 6) (hG : sv_w sg w) : ∃ x : Int32, ∃ w' : cm_W, cm_C 2 274 [.inr (.inr (some 184)), .inl a, .inl b] w (some (.inl x), w') ∧ sv_w sg w' ∧ (∀ k i, ¬ (k = 184 ∧ (i = 4 ∨ (11 ≤ i ∧ i ≤ 18))) → w'.1 k i = w.1 k i) ∧ (w.1 184 4).toInt ≤ (w'.1 184 4).toInt ∧ (x.toInt = 0 ∨ (x.toInt = 1 ∧ 0 ≤ (w'.1 184 18).toInt ∧ (w'.1 184 18).toInt ≤ 5)) := by
  obtain ⟨x, w', hC, hG', hF, hx⟩ := xs_274_f7bbdafb_3442 (a1 := a) (a2 := b) (w := w) ⟨by omega, by omega⟩ hb hG
  exact ⟨x, w', hC, hG', fun k i hki => (hF k i (by omega)).1, by omega, by omega⟩
theorem jbd_ok {w : cm_W} {a : Int32} (hG : sv_w sg w) : ∃ x : Int32, ∃ w' : cm_W, cm_C 1 94 [.inr (.inr (some 184)), .inl a] w (some (.inl x), w') ∧ sv_w sg w' ∧ (∀ k i, ¬ (k = 184 ∧ (i = 4 ∨ (11 ≤ i ∧ i ≤ 18))) → w'.1 k i = w.1 k i) ∧ (w.1 184 4).toInt ≤ (w'.1 184 4).toInt ∧ x.toInt = 0 := by
  obtain ⟨x, w', hC, hG', hF, hx⟩ := xs_94_689db261 (a1 := a) (w := w) hG
  exact ⟨x, w', hC, hG', fun k i hki => (hF k i (by omega)).1, by rw [(hF 184 4 (by omega)).1]; omega, by omega⟩
/-- a line of a book as it was read -/
def jBr (f : Nat → Int32) (i : Nat) : Prop := ((f (3 * i)).toInt = 0 ∧ 0 ≤ (f (3 * i + 1)).toInt ∧ (f (3 * i + 1)).toInt ≤ 5 ∧ 0 ≤ (f (3 * i + 2)).toInt ∧ (f (3 * i + 2)).toInt ≤ 3) ∨ (1 ≤ (f (3 * i)).toInt ∧ (f (3 * i)).toInt ≤ 3 ∧ 0 ≤ (f (3 * i + 1)).toInt ∧ (f (3 * i + 1)).toInt ≤ 5) ∨ ((f (3 * i)).toInt = 4 ∧ 1 ≤ (f (3 * i + 1)).toInt ∧ (f (3 * i + 1)).toInt ≤ 60)
def jBf (n : Nat) (w0 w : cm_W) : Prop := ∀ k i, ¬ (k = 184 ∧ (i = 4 ∨ (11 ≤ i ∧ i ≤ 18))) → ¬ (k = 188 ∧ 3 * n ≤ i) → w.1 k i = w0.1 k i
theorem jbl_47 {w : cm_W} {n : Nat} (z1 x2 x3 : Int32) (hn : (w.1 184 35).toInt = (n : Int)) (hz1 : z1.toInt = (3 * (n : Int) : Int)) (hgot : x2.toInt ≠ 0 ∨ x3.toInt ≠ 0 ∨ (0 ≤ (w.1 184 18).toInt ∧ (w.1 184 18).toInt ≤ 5)) (hG : sv_w sg w) : cm_X (cm_C 3) 246 47 [some (.inr (.inr (some 184))), some (.inl z1), some (.inl x2), some (.inl x3), none] [] w (fun o : cm_O => ∃ x w', o = (some (.inl x), w') ∧ sv_w sg w' ∧ jBf n w w' ∧ (w.1 184 4).toInt ≤ (w'.1 184 4).toInt ∧ (x.toInt = 0 ∨ (x.toInt = 1 ∧ n < 40 ∧ jBr (fun j => w'.1 188 j) n ∧ ((w'.1 184 11).toInt = 3 → (w.1 184 4).toInt + 1 ≤ (w'.1 184 4).toInt)))) := by
  have hF0 : jBf n w w := fun _ _ _ _ => rfl
  have ht := hG 184 35
  rw [xg_e41a4c4a] at ht
  have ht := hb_in ht
  refine wk_aload_n xd_0421ed93 rfl ?_
  refine wk_getI xf_e9a2fb12 xd_30e2b169 ?_
  refine wk_bipush xd_be1b9839 ?_
  refine wk_icmp xd_85a27577 (t := 62) rfl (fun h53_0 => ?_) (fun h53_0 => ?_)
  · have h53_0 := aw_ne_t (a := ((n : Int) : Int)) (b := (40 : Int)) (show ((w.1 184 35)).toInt = ((n : Int) : Int) from hn) (show (((Int8.ofInt 40).toInt32)).toInt = 40 from by decide) h53_0
    have hn40 : n < 40 := by omega
    refine wk_aload_n xd_46356adb rfl ?_
    refine wk_getR xf_fbe359c7 xd_44a7f25e ?_
    refine wk_iload_n xd_210a3195 rfl ?_
    refine wk_iconst xd_d20c42f6 ?_
    refine aw_iadd (a := (3 * (n : Int) : Int)) (b := (1 : Int)) (e := (3 * (n : Int) + 1 : Int)) xd_90fd4193 hz1 (show ((Int32.ofInt 1)).toInt = 1 from by decide) (by omega) (by omega) (by omega) (fun v2_ p2_ => ?_)
    refine wk_aload_n xd_306910c0 rfl ?_
    refine wk_getI xf_0beae9b4 xd_f05c20fa ?_
    refine aw_iastore (i := (1 + 3 * n)) xf_659780ae p2_ (by omega) (by omega) xd_a5ee5817 ?_
    have hf3_ : jBf n w (cm_u1 w 188 (1 + 3 * n) (w.1 184 18)) := fun k i x1 x2 => (hs_u1_ne (by omega)).trans (hF0 k i x1 x2)
    have hG4_ : sv_w sg (cm_u1 w 188 (1 + 3 * n) (w.1 184 18)) := sv_w_u1 hG (by rw [xh_02a71e7e (1 + 3 * n) (by omega)]; exact sv_in_top _)
    refine wk_aload_n xd_2ada7d86 rfl ?_
    obtain ⟨wN, hCN, hGN, hFN, hgN, hpN, hsN⟩ := jnx_ok (w := (cm_u1 w 188 (1 + 3 * n) (w.1 184 18))) hG4_
    refine wk_call (kd := 0) (i := 179) xd_32c56d39 rfl (wk_cal (as := [.inr (.inr (some 184))]) (t := []) xl_9e9a7c95 rfl xn_00af7311 xc_b2cf5bb1 rfl rfl xv_e7aa8f3d rfl) (cm_C_mono (by decide) hCN) ?_
    rw [show (cm_u1 w 188 (1 + 3 * n) (w.1 184 18)).1 184 4 = w.1 184 4 from rfl] at hpN hsN
    have hf5_ : jBf n w wN := fun k i x1 x2 => (hFN k i (by omega)).trans (hf3_ k i x1 x2)
    refine wk_iload_n xd_0afc1f3e rfl ?_
    refine wk_if xd_9bac4aef (t := 120) rfl (fun h79_5 => ?_) (fun h79_5 => ?_)
    · have h79_5 := aw_eq_t (a := ((x2).toInt : Int)) (b := (0 : Int)) rfl hb_z h79_5
      refine wk_iload_n xd_cbf9d34f rfl ?_
      refine wk_if xd_f9d01cba (t := 157) rfl (fun h121_6 => ?_) (fun h121_6 => ?_)
      · have h121_6 := aw_eq_t (a := ((x3).toInt : Int)) (b := (0 : Int)) rfl hb_z h121_6
        refine wk_aload_n xd_91fbd52b rfl ?_
        refine aw_ldc2 xl_52b08207 rfl xd_f0dc8898 ?_
        obtain ⟨xc8_, hCc8_, hxc8_⟩ := xs_120_037aea58 (w := wN) (l1 := (Int64.ofNat 1700885619)) hGN
        refine wk_call (kd := 0) (i := 210) xd_d727e482 rfl (wk_cal (as := [.inr (.inr (some 184)), .inr (.inl (Int64.ofNat 1700885619))]) (t := []) xl_56cf5afc rfl xn_94b640da xc_24159032 rfl rfl xv_bdbd9e17 rfl) (cm_C_mono (by decide) hCc8_) ?_
        refine wk_if xd_95d2ae28 (t := 171) rfl (fun h164_8 => ?_) (fun h164_8 => ?_)
        · have h164_8 := aw_eq_t (a := ((xc8_).toInt : Int)) (b := (0 : Int)) rfl hb_z h164_8
          refine wk_aload_n xd_a50a6b5e rfl ?_
          refine aw_ldc2 xl_724f2c1a rfl xd_90a0c610 ?_
          obtain ⟨xc10_, hCc10_, hxc10_⟩ := xs_120_037aea58 (w := wN) (l1 := (Int64.ofNat 1634298995)) hGN
          refine wk_call (kd := 0) (i := 210) xd_1d62426c rfl (wk_cal (as := [.inr (.inr (some 184)), .inr (.inl (Int64.ofNat 1634298995))]) (t := []) xl_56cf5afc rfl xn_94b640da xc_24159032 rfl rfl xv_bdbd9e17 rfl) (cm_C_mono (by decide) hCc10_) ?_
          refine wk_if xd_84e30e0b (t := 185) rfl (fun h178_10 => ?_) (fun h178_10 => ?_)
          · have h178_10 := aw_eq_t (a := ((xc10_).toInt : Int)) (b := (0 : Int)) rfl hb_z h178_10
            refine wk_aload_n xd_4643c104 rfl ?_
            refine aw_ldc2 xl_f10ca7f7 rfl xd_613d6430 ?_
            obtain ⟨xc12_, hCc12_, hxc12_⟩ := xs_120_037aea58 (w := wN) (l1 := (Int64.ofNat 469853168755)) hGN
            refine wk_call (kd := 0) (i := 210) xd_0a438161 rfl (wk_cal (as := [.inr (.inr (some 184)), .inr (.inl (Int64.ofNat 469853168755))]) (t := []) xl_56cf5afc rfl xn_94b640da xc_24159032 rfl rfl xv_bdbd9e17 rfl) (cm_C_mono (by decide) hCc12_) ?_
            refine wk_if xd_ba5be395 (t := 199) rfl (fun h192_12 => ?_) (fun h192_12 => ?_)
            · have h192_12 := aw_eq_t (a := ((xc12_).toInt : Int)) (b := (0 : Int)) rfl hb_z h192_12
              refine wk_iconst xd_7a2db423 ?_
              refine wk_istore xd_740d9638 (by rw [xm_1e9e2bdd]; rfl) rfl ?_
              refine wk_iload xd_1a8dfb48 rfl ?_
              refine wk_if xd_45d1f509 (t := 213) rfl (fun h => absurd (aw_ge_t (show ((Int32.ofInt (-1))).toInt = (-1) from by decide) hb_z h) (by omega)) (fun _ => ?_)
              refine wk_aload_n xd_4c359800 rfl ?_
              refine wk_iconst xd_454351f8 ?_
              obtain ⟨xB, wB, hCB, hGB, hFB, hpB, hxB⟩ := jbd_ok (w := wN) (a := (Int32.ofInt 1)) hGN
              refine wk_call (kd := 0) (i := 176) xd_dab10800 rfl (wk_cal (as := [.inr (.inr (some 184)), .inl (Int32.ofInt 1)]) (t := []) xl_e89d0391 rfl xn_f63023b8 xc_1907b494 rfl rfl xv_a1095a1b rfl) (cm_C_mono (by decide) hCB) ?_
              have hf15_ : jBf n w wB := fun k i x1 x2 => (hFB k i (by omega)).trans (hf5_ k i x1 x2)
              exact wk_ireturn xd_4cd6212d xr_453fe782 (aw_bit (by omega) (by omega)) ⟨_, _, rfl, hGB, hf15_, by omega, .inl (by omega)⟩
            · have h192_12 := aw_eq_f (a := ((xc12_).toInt : Int)) (b := (0 : Int)) rfl hb_z h192_12
              refine wk_iconst xd_33fdfa32 ?_
              refine wk_goto xd_b5c6a4ee (t := 200) rfl ?_
              refine wk_istore xd_740d9638 (by rw [xm_1e9e2bdd]; rfl) rfl ?_
              refine wk_iload xd_1a8dfb48 rfl ?_
              refine wk_if xd_45d1f509 (t := 213) rfl (fun _ => ?_) (fun h => absurd (aw_ge_f (show ((Int32.ofInt 2)).toInt = 2 from by decide) hb_z h) (by omega))
              refine wk_aload_n xd_cd4c5cb4 rfl ?_
              refine wk_getR xf_fbe359c7 xd_02a3f770 ?_
              refine wk_iload_n xd_aa7307fa rfl ?_
              refine wk_iload xd_cc939783 rfl ?_
              refine aw_iastore (i := (3 * n)) xf_659780ae hz1 (by omega) (by omega) xd_36577e91 ?_
              have hf17_ : jBf n w (cm_u1 wN 188 (3 * n) (Int32.ofInt 2)) := fun k i x1 x2 => (hs_u1_ne (by omega)).trans (hf5_ k i x1 x2)
              have hG18_ : sv_w sg (cm_u1 wN 188 (3 * n) (Int32.ofInt 2)) := sv_w_u1 hGN (by rw [xh_02a71e7e (3 * n) (by omega)]; exact sv_in_top _)
              refine wk_aload_n xd_78c42675 rfl ?_
              obtain ⟨wM, hCM, hGM, hFM, hgM, hpM, hsM⟩ := jnx_ok (w := (cm_u1 wN 188 (3 * n) (Int32.ofInt 2))) hG18_
              refine wk_call (kd := 0) (i := 179) xd_0433ed3f rfl (wk_cal (as := [.inr (.inr (some 184))]) (t := []) xl_9e9a7c95 rfl xn_00af7311 xc_b2cf5bb1 rfl rfl xv_e7aa8f3d rfl) (cm_C_mono (by decide) hCM) ?_
              rw [show (cm_u1 wN 188 (3 * n) (Int32.ofInt 2)).1 184 4 = wN.1 184 4 from rfl] at hpM hsM
              have hf19_ : jBf n w wM := fun k i x1 x2 => (hFM k i (by omega)).trans (hf17_ k i x1 x2)
              refine wk_iload xd_5d3ab490 rfl ?_
              refine wk_if xd_f204df24 (t := 232) rfl (fun h => absurd (aw_le_t (show ((Int32.ofInt 2)).toInt = 2 from by decide) hb_z h) (by omega)) (fun _ => ?_)
              refine wk_iconst xd_8ae54ec5 ?_
              have r0 : (wM.1 188 (3 * n)).toInt = (2 : Int) := by rw [hFM 188 (3 * n) (by omega), hs_u1_self]; decide
              have r1 : wM.1 188 (3 * n + 1) = w.1 184 18 := by rw [hFM 188 (3 * n + 1) (by omega), hs_u1_ne (by omega), hFN 188 (3 * n + 1) (by omega), show 3 * n + 1 = 1 + 3 * n from by omega, hs_u1_self]
              have q4 : wM.1 184 4 = wM.1 184 4 := rfl
              have q11 : wM.1 184 11 = wM.1 184 11 := rfl
              exact wk_ireturn xd_19986a4e xr_453fe782 wk_z1 ⟨_, _, rfl, hGM, hf19_, by rw [q4]; omega, .inr ⟨by decide, by omega, .inr (.inl ⟨by show 1 ≤ (wM.1 188 (3 * n)).toInt; omega, by show (wM.1 188 (3 * n)).toInt ≤ 3; omega, by show 0 ≤ (wM.1 188 (3 * n + 1)).toInt; rw [r1]; omega, by show (wM.1 188 (3 * n + 1)).toInt ≤ 5; rw [r1]; omega⟩), fun h => by rw [q11] at h; rw [q4]; omega⟩⟩
          · have h178_10 := aw_eq_f (a := ((xc10_).toInt : Int)) (b := (0 : Int)) rfl hb_z h178_10
            refine wk_iconst xd_b38ff936 ?_
            refine wk_goto xd_f350e6fa (t := 200) rfl ?_
            refine wk_istore xd_740d9638 (by rw [xm_1e9e2bdd]; rfl) rfl ?_
            refine wk_iload xd_1a8dfb48 rfl ?_
            refine wk_if xd_45d1f509 (t := 213) rfl (fun _ => ?_) (fun h => absurd (aw_ge_f (show ((Int32.ofInt 1)).toInt = 1 from by decide) hb_z h) (by omega))
            refine wk_aload_n xd_cd4c5cb4 rfl ?_
            refine wk_getR xf_fbe359c7 xd_02a3f770 ?_
            refine wk_iload_n xd_aa7307fa rfl ?_
            refine wk_iload xd_cc939783 rfl ?_
            refine aw_iastore (i := (3 * n)) xf_659780ae hz1 (by omega) (by omega) xd_36577e91 ?_
            have hf22_ : jBf n w (cm_u1 wN 188 (3 * n) (Int32.ofInt 1)) := fun k i x1 x2 => (hs_u1_ne (by omega)).trans (hf5_ k i x1 x2)
            have hG23_ : sv_w sg (cm_u1 wN 188 (3 * n) (Int32.ofInt 1)) := sv_w_u1 hGN (by rw [xh_02a71e7e (3 * n) (by omega)]; exact sv_in_top _)
            refine wk_aload_n xd_78c42675 rfl ?_
            obtain ⟨wM, hCM, hGM, hFM, hgM, hpM, hsM⟩ := jnx_ok (w := (cm_u1 wN 188 (3 * n) (Int32.ofInt 1))) hG23_
            refine wk_call (kd := 0) (i := 179) xd_0433ed3f rfl (wk_cal (as := [.inr (.inr (some 184))]) (t := []) xl_9e9a7c95 rfl xn_00af7311 xc_b2cf5bb1 rfl rfl xv_e7aa8f3d rfl) (cm_C_mono (by decide) hCM) ?_
            rw [show (cm_u1 wN 188 (3 * n) (Int32.ofInt 1)).1 184 4 = wN.1 184 4 from rfl] at hpM hsM
            have hf24_ : jBf n w wM := fun k i x1 x2 => (hFM k i (by omega)).trans (hf22_ k i x1 x2)
            refine wk_iload xd_5d3ab490 rfl ?_
            refine wk_if xd_f204df24 (t := 232) rfl (fun h => absurd (aw_le_t (show ((Int32.ofInt 1)).toInt = 1 from by decide) hb_z h) (by omega)) (fun _ => ?_)
            refine wk_iconst xd_8ae54ec5 ?_
            have r0 : (wM.1 188 (3 * n)).toInt = (1 : Int) := by rw [hFM 188 (3 * n) (by omega), hs_u1_self]; decide
            have r1 : wM.1 188 (3 * n + 1) = w.1 184 18 := by rw [hFM 188 (3 * n + 1) (by omega), hs_u1_ne (by omega), hFN 188 (3 * n + 1) (by omega), show 3 * n + 1 = 1 + 3 * n from by omega, hs_u1_self]
            have q4 : wM.1 184 4 = wM.1 184 4 := rfl
            have q11 : wM.1 184 11 = wM.1 184 11 := rfl
            exact wk_ireturn xd_19986a4e xr_453fe782 wk_z1 ⟨_, _, rfl, hGM, hf24_, by rw [q4]; omega, .inr ⟨by decide, by omega, .inr (.inl ⟨by show 1 ≤ (wM.1 188 (3 * n)).toInt; omega, by show (wM.1 188 (3 * n)).toInt ≤ 3; omega, by show 0 ≤ (wM.1 188 (3 * n + 1)).toInt; rw [r1]; omega, by show (wM.1 188 (3 * n + 1)).toInt ≤ 5; rw [r1]; omega⟩), fun h => by rw [q11] at h; rw [q4]; omega⟩⟩
        · have h164_8 := aw_eq_f (a := ((xc8_).toInt : Int)) (b := (0 : Int)) rfl hb_z h164_8
          refine wk_iconst xd_116dbb5a ?_
          refine wk_goto xd_feac2bdb (t := 200) rfl ?_
          refine wk_istore xd_740d9638 (by rw [xm_1e9e2bdd]; rfl) rfl ?_
          refine wk_iload xd_1a8dfb48 rfl ?_
          refine wk_if xd_45d1f509 (t := 213) rfl (fun _ => ?_) (fun h => absurd (aw_ge_f (show ((Int32.ofInt 0)).toInt = 0 from by decide) hb_z h) (by omega))
          refine wk_aload_n xd_cd4c5cb4 rfl ?_
          refine wk_getR xf_fbe359c7 xd_02a3f770 ?_
          refine wk_iload_n xd_aa7307fa rfl ?_
          refine wk_iload xd_cc939783 rfl ?_
          refine aw_iastore (i := (3 * n)) xf_659780ae hz1 (by omega) (by omega) xd_36577e91 ?_
          have hf27_ : jBf n w (cm_u1 wN 188 (3 * n) (Int32.ofInt 0)) := fun k i x1 x2 => (hs_u1_ne (by omega)).trans (hf5_ k i x1 x2)
          have hG28_ : sv_w sg (cm_u1 wN 188 (3 * n) (Int32.ofInt 0)) := sv_w_u1 hGN (by rw [xh_02a71e7e (3 * n) (by omega)]; exact sv_in_top _)
          refine wk_aload_n xd_78c42675 rfl ?_
          obtain ⟨wM, hCM, hGM, hFM, hgM, hpM, hsM⟩ := jnx_ok (w := (cm_u1 wN 188 (3 * n) (Int32.ofInt 0))) hG28_
          refine wk_call (kd := 0) (i := 179) xd_0433ed3f rfl (wk_cal (as := [.inr (.inr (some 184))]) (t := []) xl_9e9a7c95 rfl xn_00af7311 xc_b2cf5bb1 rfl rfl xv_e7aa8f3d rfl) (cm_C_mono (by decide) hCM) ?_
          rw [show (cm_u1 wN 188 (3 * n) (Int32.ofInt 0)).1 184 4 = wN.1 184 4 from rfl] at hpM hsM
          have hf29_ : jBf n w wM := fun k i x1 x2 => (hFM k i (by omega)).trans (hf27_ k i x1 x2)
          refine wk_iload xd_5d3ab490 rfl ?_
          refine wk_if xd_f204df24 (t := 232) rfl (fun _ => ?_) (fun h => absurd (aw_le_f (show ((Int32.ofInt 0)).toInt = 0 from by decide) hb_z h) (by omega))
          refine wk_aload_n xd_8f047a6f rfl ?_
          refine wk_bipush xd_e1e360af ?_
          refine wk_aload_n xd_f9bde2c1 rfl ?_
          have g1 := hGM 186 1
          rw [xg_c2b3cd54] at g1
          have g1 := hb_in g1
          refine wk_getR xf_8e66127e xd_dd2ad02a ?_
          refine wk_iconst xd_248e0c05 ?_
          refine aw_iaload (i := 1) xf_31d67ad9 (show ((Int32.ofInt 1)).toInt = 1 from by decide) (by omega) (by omega) xd_1738af17 ?_
          obtain ⟨xT, wT, hCT, hGT, hFT, hpT, hxT⟩ := jtf_ok (w := wM) (a := ((Int8.ofInt 6).toInt32)) (b := (wM.1 186 1)) ((show (((Int8.ofInt 6).toInt32)).toInt = 6 from by decide)) (by have e9 : ((wM.1 186 1)).toInt = ((wM.1 186 1).toInt : Int) := rfl; exact ⟨by omega, by omega⟩) hGM
          refine wk_call (kd := 0) (i := 229) xd_3f71485d rfl (wk_cal (as := [.inr (.inr (some 184)), .inl ((Int8.ofInt 6).toInt32), .inl (wM.1 186 1)]) (t := []) xl_78f6dfdc rfl xn_fc82bc17 xc_e83768f1 rfl rfl xv_3626efb9 rfl) (cm_C_mono (by decide) hCT) ?_
          have hf31_ : jBf n w wT := fun k i x1 x2 => (hFT k i (by omega)).trans (hf29_ k i x1 x2)
          refine wk_if xd_fe2f6866 (t := 249) rfl (fun h244_31 => ?_) (fun h244_31 => ?_)
          · have h244_31 := aw_ne_t (a := ((xT).toInt : Int)) (b := (0 : Int)) rfl hb_z h244_31
            refine wk_aload_n xd_c8403703 rfl ?_
            refine wk_getR xf_fbe359c7 xd_d38a2b55 ?_
            refine wk_iload_n xd_c3293836 rfl ?_
            refine wk_iconst xd_7c2ed56f ?_
            refine aw_iadd (a := (3 * (n : Int) : Int)) (b := (2 : Int)) (e := (3 * (n : Int) + 2 : Int)) xd_21ef0905 hz1 (show ((Int32.ofInt 2)).toInt = 2 from by decide) (by omega) (by omega) (by omega) (fun v33_ p33_ => ?_)
            refine wk_aload_n xd_3f6589ac rfl ?_
            refine wk_getI xf_0beae9b4 xd_23015934 ?_
            refine aw_iastore (i := (2 + 3 * n)) xf_659780ae p33_ (by omega) (by omega) xd_6af6ed91 ?_
            have hf34_ : jBf n w (cm_u1 wT 188 (2 + 3 * n) (wT.1 184 18)) := fun k i x1 x2 => (hs_u1_ne (by omega)).trans (hf31_ k i x1 x2)
            have hG35_ : sv_w sg (cm_u1 wT 188 (2 + 3 * n) (wT.1 184 18)) := sv_w_u1 hGT (by rw [xh_02a71e7e (2 + 3 * n) (by omega)]; exact sv_in_top _)
            refine wk_iconst xd_06e26142 ?_
            have r0 : ((cm_u1 wT 188 (2 + 3 * n) (wT.1 184 18)).1 188 (3 * n)).toInt = 0 := by rw [hs_u1_ne (by omega), hFT 188 (3 * n) (by omega), hFM 188 (3 * n) (by omega), hs_u1_self]; decide
            have r1 : (cm_u1 wT 188 (2 + 3 * n) (wT.1 184 18)).1 188 (3 * n + 1) = w.1 184 18 := by rw [hs_u1_ne (by omega), hFT 188 (3 * n + 1) (by omega), hFM 188 (3 * n + 1) (by omega), hs_u1_ne (by omega), hFN 188 (3 * n + 1) (by omega), show 3 * n + 1 = 1 + 3 * n from by omega, hs_u1_self]
            have r2 : (cm_u1 wT 188 (2 + 3 * n) (wT.1 184 18)).1 188 (3 * n + 2) = wT.1 184 18 := by rw [show 3 * n + 2 = 2 + 3 * n from by omega]; exact hs_u1_self
            have q4 : (cm_u1 wT 188 (2 + 3 * n) (wT.1 184 18)).1 184 4 = wT.1 184 4 := rfl
            have q11 : (cm_u1 wT 188 (2 + 3 * n) (wT.1 184 18)).1 184 11 = wT.1 184 11 := rfl
            exact wk_ireturn xd_290f1f6d xr_453fe782 wk_z1 ⟨_, _, rfl, hG35_, hf34_, by rw [q4]; omega, .inr ⟨by decide, by omega, .inl ⟨r0, by show 0 ≤ ((cm_u1 wT 188 (2 + 3 * n) (wT.1 184 18)).1 188 (3 * n + 1)).toInt; rw [r1]; omega, by show ((cm_u1 wT 188 (2 + 3 * n) (wT.1 184 18)).1 188 (3 * n + 1)).toInt ≤ 5; rw [r1]; omega, by show 0 ≤ ((cm_u1 wT 188 (2 + 3 * n) (wT.1 184 18)).1 188 (3 * n + 2)).toInt; rw [r2]; omega, by show ((cm_u1 wT 188 (2 + 3 * n) (wT.1 184 18)).1 188 (3 * n + 2)).toInt ≤ 3; rw [r2]; omega⟩, fun h => by rw [q11] at h; rw [q4]; omega⟩⟩
          · have h244_31 := aw_ne_f (a := ((xT).toInt : Int)) (b := (0 : Int)) rfl hb_z h244_31
            refine wk_iconst xd_a4e5c19b ?_
            exact wk_ireturn xd_c669dee6 xr_453fe782 wk_z0 ⟨_, _, rfl, hGT, hf31_, by omega, .inl (by decide)⟩
      · have h121_6 := aw_eq_f (a := ((x3).toInt : Int)) (b := (0 : Int)) rfl hb_z h121_6
        refine wk_aload_n xd_d606db61 rfl ?_
        refine wk_getR xf_fbe359c7 xd_e6eba745 ?_
        refine wk_iload_n xd_b180c309 rfl ?_
        refine wk_iconst xd_2f03c089 ?_
        refine aw_iastore (i := (3 * n)) xf_659780ae hz1 (by omega) (by omega) xd_579a236c ?_
        have hf36_ : jBf n w (cm_u1 wN 188 (3 * n) (Int32.ofInt 4)) := fun k i x1 x2 => (hs_u1_ne (by omega)).trans (hf5_ k i x1 x2)
        have hG37_ : sv_w sg (cm_u1 wN 188 (3 * n) (Int32.ofInt 4)) := sv_w_u1 hGN (by rw [xh_02a71e7e (3 * n) (by omega)]; exact sv_in_top _)
        refine wk_aload_n xd_cc0cf501 rfl ?_
        refine wk_iconst xd_fcab2e6d ?_
        refine wk_bipush xd_ba87e514 ?_
        obtain ⟨xT, wT, hCT, hGT, hFT, hpT, hxT⟩ := jtk_ok (w := (cm_u1 wN 188 (3 * n) (Int32.ofInt 4))) (a := (Int32.ofInt 1)) (b := ((Int8.ofInt 60).toInt32)) ((show ((Int32.ofInt 1)).toInt = 1 from by decide)) ((show (((Int8.ofInt 60).toInt32)).toInt = 60 from by decide)) hG37_
        refine wk_call (kd := 0) (i := 189) xd_771f7162 rfl (wk_cal (as := [.inr (.inr (some 184)), .inl (Int32.ofInt 1), .inl ((Int8.ofInt 60).toInt32)]) (t := []) xl_03919e44 rfl xn_bb22c6c7 xc_d9722b1c rfl rfl xv_6d315eac rfl) (cm_C_mono (by decide) hCT) ?_
        rw [show (cm_u1 wN 188 (3 * n) (Int32.ofInt 4)).1 184 4 = wN.1 184 4 from rfl] at hpT hxT
        have hf38_ : jBf n w wT := fun k i x1 x2 => (hFT k i (by omega)).trans (hf36_ k i x1 x2)
        refine wk_if xd_519992a5 (t := 143) rfl (fun h138_38 => ?_) (fun h138_38 => ?_)
        · have h138_38 := aw_ne_t (a := ((xT).toInt : Int)) (b := (0 : Int)) rfl hb_z h138_38
          refine wk_aload_n xd_1082119f rfl ?_
          refine wk_getR xf_fbe359c7 xd_7cbeeafa ?_
          refine wk_iload_n xd_77bd4ad1 rfl ?_
          refine wk_iconst xd_1d015943 ?_
          refine aw_iadd (a := (3 * (n : Int) : Int)) (b := (1 : Int)) (e := (3 * (n : Int) + 1 : Int)) xd_455dbd9d hz1 (show ((Int32.ofInt 1)).toInt = 1 from by decide) (by omega) (by omega) (by omega) (fun v40_ p40_ => ?_)
          refine wk_aload_n xd_e7424d85 rfl ?_
          refine wk_getI xf_0beae9b4 xd_1e0183a2 ?_
          refine aw_iastore (i := (1 + 3 * n)) xf_659780ae p40_ (by omega) (by omega) xd_37927d57 ?_
          have hf41_ : jBf n w (cm_u1 wT 188 (1 + 3 * n) (wT.1 184 18)) := fun k i x1 x2 => (hs_u1_ne (by omega)).trans (hf38_ k i x1 x2)
          have hG42_ : sv_w sg (cm_u1 wT 188 (1 + 3 * n) (wT.1 184 18)) := sv_w_u1 hGT (by rw [xh_02a71e7e (1 + 3 * n) (by omega)]; exact sv_in_top _)
          refine wk_iconst xd_74b86257 ?_
          have r0 : ((cm_u1 wT 188 (1 + 3 * n) (wT.1 184 18)).1 188 (3 * n)).toInt = 4 := by rw [hs_u1_ne (by omega), hFT 188 (3 * n) (by omega), hs_u1_self]; decide
          have r1 : (cm_u1 wT 188 (1 + 3 * n) (wT.1 184 18)).1 188 (3 * n + 1) = wT.1 184 18 := by rw [show 3 * n + 1 = 1 + 3 * n from by omega]; exact hs_u1_self
          have q4 : (cm_u1 wT 188 (1 + 3 * n) (wT.1 184 18)).1 184 4 = wT.1 184 4 := rfl
          have q11 : (cm_u1 wT 188 (1 + 3 * n) (wT.1 184 18)).1 184 11 = wT.1 184 11 := rfl
          exact wk_ireturn xd_746b8fab xr_453fe782 wk_z1 ⟨_, _, rfl, hG42_, hf41_, by rw [q4]; omega, .inr ⟨by decide, by omega, .inr (.inr ⟨r0, by show 1 ≤ ((cm_u1 wT 188 (1 + 3 * n) (wT.1 184 18)).1 188 (3 * n + 1)).toInt; rw [r1]; omega, by show ((cm_u1 wT 188 (1 + 3 * n) (wT.1 184 18)).1 188 (3 * n + 1)).toInt ≤ 60; rw [r1]; omega⟩), fun h => by rw [q11] at h; rw [q4]; omega⟩⟩
        · have h138_38 := aw_ne_f (a := ((xT).toInt : Int)) (b := (0 : Int)) rfl hb_z h138_38
          refine wk_iconst xd_8e0a3233 ?_
          exact wk_ireturn xd_71baefd0 xr_453fe782 wk_z0 ⟨_, _, rfl, hGT, hf38_, by omega, .inl (by decide)⟩
    · have h79_5 := aw_eq_f (a := ((x2).toInt : Int)) (b := (0 : Int)) rfl hb_z h79_5
      refine wk_aload_n xd_24050435 rfl ?_
      refine wk_getR xf_fbe359c7 xd_2e500253 ?_
      refine wk_iload_n xd_433a5f7b rfl ?_
      refine wk_iconst xd_45bf20ca ?_
      refine aw_iastore (i := (3 * n)) xf_659780ae hz1 (by omega) (by omega) xd_2798cbc2 ?_
      have hf43_ : jBf n w (cm_u1 wN 188 (3 * n) (Int32.ofInt 3)) := fun k i x1 x2 => (hs_u1_ne (by omega)).trans (hf5_ k i x1 x2)
      have hG44_ : sv_w sg (cm_u1 wN 188 (3 * n) (Int32.ofInt 3)) := sv_w_u1 hGN (by rw [xh_02a71e7e (3 * n) (by omega)]; exact sv_in_top _)
      refine wk_aload_n xd_52597e2e rfl ?_
      refine wk_bipush xd_ceae41bf ?_
      refine wk_aload_n xd_a5206112 rfl ?_
      have g2 := hG44_ 186 2
      rw [xg_96376df5] at g2
      have g2 := hb_in g2
      refine wk_getR xf_8e66127e xd_93e8eeac ?_
      refine wk_iconst xd_f484876e ?_
      refine aw_iaload (i := 2) xf_31d67ad9 (show ((Int32.ofInt 2)).toInt = 2 from by decide) (by omega) (by omega) xd_ccfe56b5 ?_
      obtain ⟨xT, wT, hCT, hGT, hFT, hpT, hxT⟩ := jtn_ok (w := (cm_u1 wN 188 (3 * n) (Int32.ofInt 3))) (a := ((Int8.ofInt 10).toInt32)) (b := ((cm_u1 wN 188 (3 * n) (Int32.ofInt 3)).1 186 2)) ((show (((Int8.ofInt 10).toInt32)).toInt = 10 from by decide)) (by have e9 : (((cm_u1 wN 188 (3 * n) (Int32.ofInt 3)).1 186 2)).toInt = ((wN.1 186 2).toInt : Int) := rfl; exact ⟨by omega, by omega⟩) hG44_
      refine wk_call (kd := 0) (i := 229) xd_bbfcc861 rfl (wk_cal (as := [.inr (.inr (some 184)), .inl ((Int8.ofInt 10).toInt32), .inl ((cm_u1 wN 188 (3 * n) (Int32.ofInt 3)).1 186 2)]) (t := []) xl_78f6dfdc rfl xn_fc82bc17 xc_e83768f1 rfl rfl xv_3626efb9 rfl) (cm_C_mono (by decide) hCT) ?_
      rw [show (cm_u1 wN 188 (3 * n) (Int32.ofInt 3)).1 184 4 = wN.1 184 4 from rfl] at hpT hxT
      have hf45_ : jBf n w wT := fun k i x1 x2 => (hFT k i (by omega)).trans (hf43_ k i x1 x2)
      refine wk_if xd_5039344d (t := 106) rfl (fun h101_45 => ?_) (fun h101_45 => ?_)
      · have h101_45 := aw_ne_t (a := ((xT).toInt : Int)) (b := (0 : Int)) rfl hb_z h101_45
        refine wk_aload_n xd_e2abc487 rfl ?_
        refine wk_getR xf_fbe359c7 xd_63c7ca77 ?_
        refine wk_iload_n xd_e9272907 rfl ?_
        refine wk_iconst xd_284550c4 ?_
        refine aw_iadd (a := (3 * (n : Int) : Int)) (b := (1 : Int)) (e := (3 * (n : Int) + 1 : Int)) xd_86004349 hz1 (show ((Int32.ofInt 1)).toInt = 1 from by decide) (by omega) (by omega) (by omega) (fun v47_ p47_ => ?_)
        refine wk_aload_n xd_f8a1eae7 rfl ?_
        refine wk_getI xf_0beae9b4 xd_b2c9d8ae ?_
        refine aw_iastore (i := (1 + 3 * n)) xf_659780ae p47_ (by omega) (by omega) xd_102d6cb4 ?_
        have hf48_ : jBf n w (cm_u1 wT 188 (1 + 3 * n) (wT.1 184 18)) := fun k i x1 x2 => (hs_u1_ne (by omega)).trans (hf45_ k i x1 x2)
        have hG49_ : sv_w sg (cm_u1 wT 188 (1 + 3 * n) (wT.1 184 18)) := sv_w_u1 hGT (by rw [xh_02a71e7e (1 + 3 * n) (by omega)]; exact sv_in_top _)
        refine wk_iconst xd_862e1204 ?_
        have r0 : ((cm_u1 wT 188 (1 + 3 * n) (wT.1 184 18)).1 188 (3 * n)).toInt = 3 := by rw [hs_u1_ne (by omega), hFT 188 (3 * n) (by omega), hs_u1_self]; decide
        have r1 : (cm_u1 wT 188 (1 + 3 * n) (wT.1 184 18)).1 188 (3 * n + 1) = wT.1 184 18 := by rw [show 3 * n + 1 = 1 + 3 * n from by omega]; exact hs_u1_self
        have q4 : (cm_u1 wT 188 (1 + 3 * n) (wT.1 184 18)).1 184 4 = wT.1 184 4 := rfl
        have q11 : (cm_u1 wT 188 (1 + 3 * n) (wT.1 184 18)).1 184 11 = wT.1 184 11 := rfl
        exact wk_ireturn xd_64df9385 xr_453fe782 wk_z1 ⟨_, _, rfl, hG49_, hf48_, by rw [q4]; omega, .inr ⟨by decide, by omega, .inr (.inl ⟨by show 1 ≤ ((cm_u1 wT 188 (1 + 3 * n) (wT.1 184 18)).1 188 (3 * n)).toInt; omega, by show ((cm_u1 wT 188 (1 + 3 * n) (wT.1 184 18)).1 188 (3 * n)).toInt ≤ 3; omega, by show 0 ≤ ((cm_u1 wT 188 (1 + 3 * n) (wT.1 184 18)).1 188 (3 * n + 1)).toInt; rw [r1]; omega, by show ((cm_u1 wT 188 (1 + 3 * n) (wT.1 184 18)).1 188 (3 * n + 1)).toInt ≤ 5; rw [r1]; omega⟩), fun h => by rw [q11] at h; rw [q4]; omega⟩⟩
      · have h101_45 := aw_ne_f (a := ((xT).toInt : Int)) (b := (0 : Int)) rfl hb_z h101_45
        refine wk_iconst xd_c5df6460 ?_
        exact wk_ireturn xd_44fcfa88 xr_453fe782 wk_z0 ⟨_, _, rfl, hGT, hf45_, by omega, .inl (by decide)⟩
  · have h53_0 := aw_ne_f (a := ((n : Int) : Int)) (b := (40 : Int)) (show ((w.1 184 35)).toInt = ((n : Int) : Int) from hn) (show (((Int8.ofInt 40).toInt32)).toInt = 40 from by decide) h53_0
    refine wk_aload_n xd_1e776260 rfl ?_
    refine wk_iconst xd_6c09f4bb ?_
    obtain ⟨xB, wB, hCB, hGB, hFB, hpB, hxB⟩ := jbd_ok (w := w) (a := (Int32.ofInt 4)) hG
    refine wk_call (kd := 0) (i := 176) xd_ca17fae0 rfl (wk_cal (as := [.inr (.inr (some 184)), .inl (Int32.ofInt 4)]) (t := []) xl_e89d0391 rfl xn_f63023b8 xc_1907b494 rfl rfl xv_a1095a1b rfl) (cm_C_mono (by decide) hCB) ?_
    have hf50_ : jBf n w wB := fun k i x1 x2 => (hFB k i (by omega)).trans (hF0 k i x1 x2)
    exact wk_ireturn xd_f13fce2b xr_453fe782 (aw_bit (by omega) (by omega)) ⟨_, _, rfl, hGB, hf50_, by omega, .inl (by omega)⟩
theorem jbl_ok {w : cm_W} {n : Nat} (hn : (w.1 184 35).toInt = (n : Int)) (hG : sv_w sg w) : ∃ x w', cm_C 4 246 [.inr (.inr (some 184))] w (some (.inl x), w') ∧ sv_w sg w' ∧ jBf n w w' ∧ (w.1 184 4).toInt ≤ (w'.1 184 4).toInt ∧ (x.toInt = 0 ∨ (x.toInt = 1 ∧ n < 40 ∧ jBr (fun j => w'.1 188 j) n ∧ ((w'.1 184 11).toInt = 3 → (w.1 184 4).toInt + 1 ≤ (w'.1 184 4).toInt))) := by
  have hF0 : jBf n w w := fun _ _ _ _ => rfl
  have ht := hG 184 35
  rw [xg_e41a4c4a] at ht
  have ht := hb_in ht
  have h : ∃ o, cm_C (3 + 1) 246 [.inr (.inr (some 184))] w o ∧ (fun o : cm_O => ∃ x w', o = (some (.inl x), w') ∧ sv_w sg w' ∧ jBf n w w' ∧ (w.1 184 4).toInt ≤ (w'.1 184 4).toInt ∧ (x.toInt = 0 ∨ (x.toInt = 1 ∧ n < 40 ∧ jBr (fun j => w'.1 188 j) n ∧ ((w'.1 184 11).toInt = 3 → (w.1 184 4).toInt + 1 ≤ (w'.1 184 4).toInt)))) o := by
    refine wk_entry (by rw [xm_1e9e2bdd]; exact Nat.le_of_ble_eq_true rfl) ?_
    rw [show cm_ent 246 [.inr (.inr (some 184))] = [some (.inr (.inr (some 184))), none, none, none, none] from by unfold cm_ent; rw [xm_1e9e2bdd]; rfl]
    refine wk_iconst xd_6e67dde0 ?_
    refine wk_aload_n xd_ffc9b48d rfl ?_
    refine wk_getI xf_e9a2fb12 xd_9c4f08dd ?_
    refine aw_imul (a := (3 : Int)) (b := ((n : Int) : Int)) (e := (3 * (n : Int) : Int)) xd_54fdbf5a (show ((Int32.ofInt 3)).toInt = 3 from by decide) (show ((w.1 184 35)).toInt = ((n : Int) : Int) from hn) (by omega) (by omega) (by omega) (fun v1_ p1_ => ?_)
    refine wk_istore_n xd_3fff20b8 (by rw [xm_1e9e2bdd]; rfl) rfl ?_
    refine wk_aload_n xd_1203c6f7 rfl ?_
    refine aw_ldc2 xl_94b0da36 rfl xd_7196d0d0 ?_
    obtain ⟨xc2_, hCc2_, hxc2_⟩ := xs_120_037aea58 (w := w) (l1 := (Int64.ofNat 1835361652)) hG
    refine wk_call (kd := 0) (i := 210) xd_aab442b3 rfl (wk_cal (as := [.inr (.inr (some 184)), .inr (.inl (Int64.ofNat 1835361652))]) (t := []) xl_56cf5afc rfl xn_94b640da xc_24159032 rfl rfl xv_bdbd9e17 rfl) (cm_C_mono (by decide) hCc2_) ?_
    refine wk_istore_n xd_b59bcbf8 (by rw [xm_1e9e2bdd]; rfl) rfl ?_
    refine wk_aload_n xd_0194c502 rfl ?_
    refine aw_ldc2 xl_46279b00 rfl xd_7d99b0c1 ?_
    obtain ⟨xc3_, hCc3_, hxc3_⟩ := xs_120_037aea58 (w := w) (l1 := (Int64.ofNat 1752135026)) hG
    refine wk_call (kd := 0) (i := 210) xd_dd8b043b rfl (wk_cal (as := [.inr (.inr (some 184)), .inr (.inl (Int64.ofNat 1752135026))]) (t := []) xl_56cf5afc rfl xn_94b640da xc_24159032 rfl rfl xv_bdbd9e17 rfl) (cm_C_mono (by decide) hCc3_) ?_
    refine wk_istore_n xd_0d2b064b (by rw [xm_1e9e2bdd]; rfl) rfl ?_
    refine wk_iload_n xd_94839e5d rfl ?_
    refine wk_if xd_87bcf479 (t := 47) rfl (fun h24_3 => ?_) (fun h24_3 => ?_)
    · have h24_3 := aw_ne_t (a := ((xc2_).toInt : Int)) (b := (0 : Int)) rfl hb_z h24_3
      exact jbl_47 v1_ xc2_ xc3_ hn p1_ (by omega) hG
    · have h24_3 := aw_ne_f (a := ((xc2_).toInt : Int)) (b := (0 : Int)) rfl hb_z h24_3
      refine wk_iload_n xd_a9bf167e rfl ?_
      refine wk_if xd_e85b23b9 (t := 47) rfl (fun h28_4 => ?_) (fun h28_4 => ?_)
      · have h28_4 := aw_ne_t (a := ((xc3_).toInt : Int)) (b := (0 : Int)) rfl hb_z h28_4
        exact jbl_47 v1_ xc2_ xc3_ hn p1_ (by omega) hG
      · have h28_4 := aw_ne_f (a := ((xc3_).toInt : Int)) (b := (0 : Int)) rfl hb_z h28_4
        refine wk_aload_n xd_d8f3a89e rfl ?_
        refine wk_iconst xd_3fcad7c1 ?_
        refine wk_aload_n xd_35657b77 rfl ?_
        have g0 := hG 186 0
        rw [xg_955c97cf] at g0
        have g0 := hb_in g0
        refine wk_getR xf_8e66127e xd_1ddb74d7 ?_
        refine wk_iconst xd_74432001 ?_
        refine aw_iaload (i := 0) xf_31d67ad9 (show ((Int32.ofInt 0)).toInt = 0 from by decide) (by omega) (by omega) xd_71572e9f ?_
        obtain ⟨xL, wL, hCL, hGL, hFL, hpL, hxL⟩ := jlk_ok (w := w) (a := (Int32.ofInt 0)) (b := (w.1 186 0)) ((show ((Int32.ofInt 0)).toInt = 0 from by decide)) (by have e9 : ((w.1 186 0)).toInt = ((w.1 186 0).toInt : Int) := rfl; exact ⟨by omega, by omega⟩) hG
        refine wk_call (kd := 0) (i := 201) xd_1372f33b rfl (wk_cal (as := [.inr (.inr (some 184)), .inl (Int32.ofInt 0), .inl (w.1 186 0)]) (t := []) xl_d3d45156 rfl xn_77145da2 xc_6d225164 rfl rfl xv_5b2ff62c rfl) (cm_C_mono (by decide) hCL) ?_
        have hf6_ : jBf n w wL := fun k i x1 x2 => (hFL k i (by omega)).trans (hF0 k i x1 x2)
        refine wk_if xd_177781bd (t := 47) rfl (fun h42_6 => ?_) (fun h42_6 => ?_)
        · have h42_6 := aw_ne_t (a := ((xL).toInt : Int)) (b := (0 : Int)) rfl hb_z h42_6
          refine cm_X_imp (jbl_47 v1_ xc2_ xc3_ ((hFL 184 35 (by omega)).symm ▸ hn) p1_ (by omega) hGL) (fun o h => ?_)
          obtain ⟨x, w', rfl, a1, a2, a3, a4⟩ := h
          exact ⟨x, w', rfl, a1, fun k i x1 x2 => (a2 k i x1 x2).trans (hFL k i x1), by omega, a4.imp_right (fun ⟨b1, b2, b3, b4⟩ => ⟨b1, b2, b3, fun h => by have := b4 h; omega⟩)⟩
        · have h42_6 := aw_ne_f (a := ((xL).toInt : Int)) (b := (0 : Int)) rfl hb_z h42_6
          refine wk_iconst xd_2caa712f ?_
          exact wk_ireturn xd_b68881f3 xr_453fe782 wk_z0 ⟨_, _, rfl, hGL, hf6_, by omega, .inl (by decide)⟩
  obtain ⟨o, hC, x, w', rfl, a⟩ := h
  exact ⟨x, w', hC, a⟩
/-- does, of a line that was read -/
theorem jdo_ok {w : cm_W} {a b c : Int32} (h : (a.toInt = 0 ∧ 0 ≤ b.toInt ∧ b.toInt ≤ 5 ∧ 0 ≤ c.toInt ∧ c.toInt ≤ 3) ∨ (1 ≤ a.toInt ∧ a.toInt ≤ 3 ∧ 0 ≤ b.toInt ∧ b.toInt ≤ 5) ∨ (a.toInt = 4 ∧ 1 ≤ b.toInt ∧ b.toInt ≤ 60)) (hG : sv_w sg w) : ∃ x : Int32, ∃ w' : cm_W, cm_C 6 250 [.inr (.inr (some 184)), .inl a, .inl b, .inl c] w (some (.inl x), w') ∧ sv_w sg w' ∧ (∀ k i, ¬ (k = 186 ∧ 79 ≤ i ∧ i ≤ 119) → w'.1 k i = w.1 k i) := by
  rcases h with ⟨h1, h2, h3, h4, h5⟩ | ⟨h1, h2, h3, h4⟩ | ⟨h1, h2, h3⟩
  · have hc : c.toInt = 0 ∨ c.toInt = 1 ∨ c.toInt = 2 ∨ c.toInt = 3 := by omega
    rcases hc with hc | hc | hc | hc
    · obtain ⟨x, w', hC, hG', hF, hx⟩ := xs_250_d147f360 (a1 := a) (a2 := b) (a3 := c) (w := w) ⟨by omega, by omega⟩ ⟨by omega, by omega⟩ ⟨by omega, by omega⟩ hG
      exact ⟨x, w', cm_C_mono (by decide) hC, hG', fun k i hki => (hF k i (by omega)).1⟩
    · obtain ⟨x, w', hC, hG', hF, hx⟩ := xs_250_e2c23f66 (a1 := a) (a2 := b) (a3 := c) (w := w) ⟨by omega, by omega⟩ ⟨by omega, by omega⟩ ⟨by omega, by omega⟩ hG
      exact ⟨x, w', cm_C_mono (by decide) hC, hG', fun k i hki => (hF k i (by omega)).1⟩
    · obtain ⟨x, w', hC, hG', hF, hx⟩ := xs_250_f4f7cd0b (a1 := a) (a2 := b) (a3 := c) (w := w) ⟨by omega, by omega⟩ ⟨by omega, by omega⟩ ⟨by omega, by omega⟩ hG
      exact ⟨x, w', cm_C_mono (by decide) hC, hG', fun k i hki => (hF k i (by omega)).1⟩
    · obtain ⟨x, w', hC, hG', hF, hx⟩ := xs_250_c772010d (a1 := a) (a2 := b) (a3 := c) (w := w) ⟨by omega, by omega⟩ ⟨by omega, by omega⟩ ⟨by omega, by omega⟩ hG
      exact ⟨x, w', cm_C_mono (by decide) hC, hG', fun k i hki => (hF k i (by omega)).1⟩
  · have hc : a.toInt = 1 ∨ a.toInt = 2 ∨ a.toInt = 3 := by omega
    rcases hc with hc | hc | hc
    · obtain ⟨x, w', hC, hG', hF, hx⟩ := xs_250_4d7bb1cf (a1 := a) (a2 := b) (a3 := c) (w := w) ⟨by omega, by omega⟩ ⟨by omega, by omega⟩ hG
      exact ⟨x, w', cm_C_mono (by decide) hC, hG', fun k i hki => (hF k i (by omega)).1⟩
    · obtain ⟨x, w', hC, hG', hF, hx⟩ := xs_250_6bfd018f (a1 := a) (a2 := b) (a3 := c) (w := w) ⟨by omega, by omega⟩ ⟨by omega, by omega⟩ hG
      exact ⟨x, w', cm_C_mono (by decide) hC, hG', fun k i hki => (hF k i (by omega)).1⟩
    · obtain ⟨x, w', hC, hG', hF, hx⟩ := xs_250_a37fbfde (a1 := a) (a2 := b) (a3 := c) (w := w) ⟨by omega, by omega⟩ ⟨by omega, by omega⟩ hG
      exact ⟨x, w', cm_C_mono (by decide) hC, hG', fun k i hki => (hF k i (by omega)).1⟩
  · obtain ⟨x, w', hC, hG', hF, hx⟩ := xs_250_781c3aa0 (a1 := a) (a2 := b) (a3 := c) (w := w) ⟨by omega, by omega⟩ ⟨by omega, by omega⟩ hG
    exact ⟨x, w', cm_C_mono (by decide) hC, hG', fun k i hki => (hF k i (by omega)).1⟩

/-! ## by hand: valley of the reference (wip/p2/gen9b.py) -/
set_option maxRecDepth 100000 in
theorem xg_a93c74c7 : sv_g sg 187 0 = (2147483648, 2147483654) := by decide +kernel
set_option maxRecDepth 100000 in
theorem xg_fed32e5c : sv_g sg 187 1 = (2147483648, 2147483652) := by decide +kernel
set_option maxRecDepth 100000 in
theorem xg_aa578efd : sv_g sg 187 2 = (2147483648, 2147483654) := by decide +kernel
set_option maxRecDepth 100000 in
theorem xg_07573cec : sv_g sg 187 3 = (2147483648, 2147483658) := by decide +kernel
set_option maxRecDepth 100000 in
theorem xs_273_1a86e3ae_f166 {w : cm_W} (f1 : 1 ≤ (w.1 184 11).toInt ∧ (w.1 184 11).toInt ≤ 3) (f7 : 1 ≤ (w.1 187 4).toInt ∧ (w.1 187 4).toInt ≤ 20) (hG : sv_w sg w) : ∃ x : Int32, ∃ w' : cm_W, cm_C 6 273 [.inr (.inr (some 184))] w (some (.inl x), w') ∧ sv_w sg w' ∧ (∀ k i, ¬ ((k = 184 ∧ i = 4) ∨ (k = 184 ∧ 11 ≤ i ∧ i ≤ 18) ∨ (k = 184 ∧ i = 20) ∨ (k = 187 ∧ 0 ≤ i ∧ i ≤ 78) ∨ (k = 189 ∧ 16 ≤ i ∧ i ≤ 31)) → w'.1 k i = w.1 k i ∧ w'.2 k i = w.2 k i) ∧ ((x.toInt = 0 ∧ 0 ≤ (w'.1 184 4).toInt ∧ (w'.1 184 4).toInt ≤ 940 ∧ (w.1 184 4).toInt + 1 ≤ (w'.1 184 4).toInt + 1 ∧ 1 ≤ (w'.1 187 4).toInt ∧ (w'.1 187 4).toInt ≤ 20) ∨ (x.toInt = 0 ∧ 0 ≤ (w'.1 184 4).toInt ∧ (w'.1 184 4).toInt ≤ 940 ∧ (w.1 184 4).toInt + 1 ≤ (w'.1 184 4).toInt + 1 ∧ (w'.1 184 11).toInt = 1 ∧ 1 ≤ (w'.1 187 4).toInt ∧ (w'.1 187 4).toInt ≤ 20) ∨ (x.toInt = 0 ∧ 0 ≤ (w'.1 184 4).toInt ∧ (w'.1 184 4).toInt ≤ 940 ∧ (w.1 184 4).toInt + 1 ≤ (w'.1 184 4).toInt + 1 ∧ (w'.1 184 11).toInt = 2 ∧ 1 ≤ (w'.1 187 4).toInt ∧ (w'.1 187 4).toInt ≤ 20) ∨ (x.toInt = 1 ∧ 0 ≤ (w'.1 184 4).toInt ∧ (w'.1 184 4).toInt ≤ 940 ∧ (w.1 184 4).toInt + 1 ≤ (w'.1 184 4).toInt + 1 ∧ (w'.1 184 11).toInt = 2 ∧ 1 ≤ (w'.1 187 4).toInt ∧ (w'.1 187 4).toInt ≤ 20) ∨ (x.toInt = 1 ∧ 0 ≤ (w'.1 184 4).toInt ∧ (w'.1 184 4).toInt ≤ 940 ∧ (w.1 184 4).toInt + 1 ≤ (w'.1 184 4).toInt + 1 ∧ (w'.1 184 11).toInt = 1 ∧ 1 ≤ (w'.1 187 4).toInt ∧ (w'.1 187 4).toInt ≤ 20) ∨ (x.toInt = 1 ∧ 0 ≤ (w'.1 184 4).toInt ∧ (w'.1 184 4).toInt ≤ 940 ∧ (w.1 184 4).toInt + 2 ≤ (w'.1 184 4).toInt + 1 ∧ (w'.1 184 11).toInt = 4 ∧ 1 ≤ (w'.1 187 4).toInt ∧ (w'.1 187 4).toInt ≤ 20) ∨ (x.toInt = 1 ∧ 1 ≤ (w'.1 184 4).toInt ∧ (w'.1 184 4).toInt ≤ 940 ∧ (w.1 184 4).toInt + 2 ≤ (w'.1 184 4).toInt + 1 ∧ (w'.1 184 11).toInt = 3 ∧ 1 ≤ (w'.1 187 4).toInt ∧ (w'.1 187 4).toInt ≤ 20) ∨ (x.toInt = 1 ∧ 0 ≤ (w'.1 184 4).toInt ∧ (w'.1 184 4).toInt ≤ 940 ∧ (w.1 184 4).toInt + 1 ≤ (w'.1 184 4).toInt + 1 ∧ (w'.1 184 11).toInt = 0 ∧ 1 ≤ (w'.1 187 4).toInt ∧ (w'.1 187 4).toInt ≤ 20) ∨ (x.toInt = 1 ∧ 0 ≤ (w'.1 184 4).toInt ∧ (w'.1 184 4).toInt ≤ 940 ∧ (w.1 184 4).toInt + 1 ≤ (w'.1 184 4).toInt + 1 ∧ (w'.1 184 11).toInt = 4 ∧ 1 ≤ (w'.1 187 4).toInt ∧ (w'.1 187 4).toInt ≤ 20) ∨ (x.toInt = 0 ∧ 0 ≤ (w'.1 184 4).toInt ∧ (w'.1 184 4).toInt ≤ 940 ∧ (w.1 184 4).toInt + 2 ≤ (w'.1 184 4).toInt + 1 ∧ 1 ≤ (w'.1 187 4).toInt ∧ (w'.1 187 4).toInt ≤ 20) ∨ (x.toInt = 0 ∧ 0 ≤ (w'.1 184 4).toInt ∧ (w'.1 184 4).toInt ≤ 940 ∧ (w.1 184 4).toInt + 2 ≤ (w'.1 184 4).toInt + 1 ∧ (w'.1 184 11).toInt = 2 ∧ 1 ≤ (w'.1 187 4).toInt ∧ (w'.1 187 4).toInt ≤ 20) ∨ (x.toInt = 1 ∧ 0 ≤ (w'.1 184 4).toInt ∧ (w'.1 184 4).toInt ≤ 940 ∧ (w.1 184 4).toInt + 2 ≤ (w'.1 184 4).toInt + 1 ∧ (w'.1 184 11).toInt = 2 ∧ 1 ≤ (w'.1 187 4).toInt ∧ (w'.1 187 4).toInt ≤ 20) ∨ (x.toInt = 1 ∧ 0 ≤ (w'.1 184 4).toInt ∧ (w'.1 184 4).toInt ≤ 940 ∧ (w.1 184 4).toInt + 2 ≤ (w'.1 184 4).toInt + 1 ∧ (w'.1 184 11).toInt = 1 ∧ 1 ≤ (w'.1 187 4).toInt ∧ (w'.1 187 4).toInt ≤ 20) ∨ (x.toInt = 1 ∧ 0 ≤ (w'.1 184 4).toInt ∧ (w'.1 184 4).toInt ≤ 940 ∧ (w.1 184 4).toInt + 2 ≤ (w'.1 184 4).toInt + 1 ∧ (w'.1 184 11).toInt = 0 ∧ 1 ≤ (w'.1 187 4).toInt ∧ (w'.1 187 4).toInt ≤ 20) ∨ (x.toInt = 0 ∧ 0 ≤ (w'.1 184 4).toInt ∧ (w'.1 184 4).toInt ≤ 940 ∧ (w.1 184 4).toInt + 2 ≤ (w'.1 184 4).toInt + 1 ∧ (w'.1 184 11).toInt = 1 ∧ 1 ≤ (w'.1 187 4).toInt ∧ (w'.1 187 4).toInt ≤ 20) ∨ (x.toInt = 0 ∧ 1 ≤ (w'.1 184 4).toInt ∧ (w'.1 184 4).toInt ≤ 940 ∧ (w.1 184 4).toInt + 2 ≤ (w'.1 184 4).toInt + 1 ∧ (w'.1 184 11).toInt = 3 ∧ 1 ≤ (w'.1 187 4).toInt ∧ (w'.1 187 4).toInt ≤ 20) ∨ (x.toInt = 0 ∧ 0 ≤ (w'.1 184 4).toInt ∧ (w'.1 184 4).toInt ≤ 940 ∧ (w.1 184 4).toInt + 1 ≤ (w'.1 184 4).toInt + 1 ∧ (w'.1 184 11).toInt = 4 ∧ 1 ≤ (w'.1 187 4).toInt ∧ (w'.1 187 4).toInt ≤ 20) ∨ (x.toInt = 0 ∧ 0 ≤ (w'.1 184 4).toInt ∧ (w'.1 184 4).toInt ≤ 940 ∧ (w.1 184 4).toInt + 2 ≤ (w'.1 184 4).toInt + 1 ∧ (w'.1 184 11).toInt = 0 ∧ 1 ≤ (w'.1 187 4).toInt ∧ (w'.1 187 4).toInt ≤ 20) ∨ (x.toInt = 0 ∧ 0 ≤ (w'.1 184 4).toInt ∧ (w'.1 184 4).toInt ≤ 940 ∧ (w.1 184 4).toInt + 2 ≤ (w'.1 184 4).toInt + 1 ∧ (w'.1 184 11).toInt = 4 ∧ 1 ≤ (w'.1 187 4).toInt ∧ (w'.1 187 4).toInt ≤ 20) ∨ (x.toInt = 0 ∧ 0 ≤ (w'.1 184 4).toInt ∧ (w'.1 184 4).toInt ≤ 940 ∧ (w.1 184 4).toInt + 1 ≤ (w'.1 184 4).toInt + 1 ∧ (w'.1 184 11).toInt = 0 ∧ 1 ≤ (w'.1 187 4).toInt ∧ (w'.1 187 4).toInt ≤ 20)) := by
  obtain ⟨r, w', hC, hG', hF, q, hq, hr, hp, hs⟩ := wk_use (d := 6) sm_273_1a86e3ae_ok (by decide) (as := [.inr (.inr (some 184))]) (w := w) ⟨rfl, trivial⟩ (fun f hf => by
    rcases List.mem_cons.mp hf with rfl | hf
    · exact ⟨(by have h9 := hG 184 4; rw [xg_efb20a0a] at h9; exact h9), .inr (Nat.le_refl _), .inl rfl⟩
    rcases List.mem_cons.mp hf with rfl | hf
    · exact ⟨(hb_mk (lo := 2147483649) (hi := 2147483651) (x := w.1 184 11) (by have := f1.1; omega) (by have := f1.2; omega)), .inl rfl, .inl rfl⟩
    rcases List.mem_cons.mp hf with rfl | hf
    · exact ⟨(sv_in_top _), .inl rfl, .inl rfl⟩
    rcases List.mem_cons.mp hf with rfl | hf
    · exact ⟨(by have h9 := hG 187 0; rw [xg_a93c74c7] at h9; exact h9), .inl rfl, .inl rfl⟩
    rcases List.mem_cons.mp hf with rfl | hf
    · exact ⟨(by have h9 := hG 187 1; rw [xg_fed32e5c] at h9; exact h9), .inl rfl, .inl rfl⟩
    rcases List.mem_cons.mp hf with rfl | hf
    · exact ⟨(by have h9 := hG 187 2; rw [xg_aa578efd] at h9; exact h9), .inl rfl, .inl rfl⟩
    rcases List.mem_cons.mp hf with rfl | hf
    · exact ⟨(by have h9 := hG 187 3; rw [xg_07573cec] at h9; exact h9), .inl rfl, .inl rfl⟩
    rcases List.mem_cons.mp hf with rfl | hf
    · exact ⟨(hb_mk (lo := 2147483649) (hi := 2147483668) (x := w.1 187 4) (by have := f7.1; omega) (by have := f7.2; omega)), .inl rfl, .inl rfl⟩
    cases hf) hG
  have hfr : ∀ k i, ¬ ((k = 184 ∧ i = 4) ∨ (k = 184 ∧ 11 ≤ i ∧ i ≤ 18) ∨ (k = 184 ∧ i = 20) ∨ (k = 187 ∧ 0 ≤ i ∧ i ≤ 78) ∨ (k = 189 ∧ 16 ≤ i ∧ i ≤ 31)) → w'.1 k i = w.1 k i ∧ w'.2 k i = w.2 k i := fun k i hki => hF k i (fun ⟨r, z, z1, z2, z3⟩ => by
    simp only [sm_273_1a86e3ae, List.mem_cons, List.not_mem_nil, or_false] at z
    rcases z with rfl | rfl | rfl | rfl | rfl
    all_goals (simp only at z1 z2 z3; omega))
  simp only [sm_273_1a86e3ae, List.mem_cons, List.not_mem_nil, or_false] at hq
  rcases hq with rfl | rfl | rfl | rfl | rfl | rfl | rfl | rfl | rfl | rfl | rfl | rfl | rfl | rfl | rfl | rfl | rfl | rfl | rfl | rfl
  · obtain ⟨x, rfl, hx⟩ := wk_int hr
    have hx := hb_in hx
    have s0 := hs _ List.mem_cons_self
    have t0 := hb_in (lo := 2147483648) (hi := 2147484588) (x := w'.1 184 4) s0.1
    have u0 : ia_E (w.1 184 4) + 1 ≤ ia_E (w'.1 184 4) + 1 := s0.2.1.resolve_left (by decide)
    have v0 := hb_E (w.1 184 4)
    have y0 := hb_E (w'.1 184 4)
    have s1 := hs _ (List.mem_cons_of_mem _ List.mem_cons_self)
    have t1 := hb_in (lo := 2147483649) (hi := 2147483668) (x := w'.1 187 4) s1.1
    exact ⟨x, w', hC, hG', hfr, Or.inl ⟨by omega, by omega, by omega, by omega, by omega, by omega⟩⟩
  · obtain ⟨x, rfl, hx⟩ := wk_int hr
    have hx := hb_in hx
    have s0 := hs _ List.mem_cons_self
    have t0 := hb_in (lo := 2147483648) (hi := 2147484588) (x := w'.1 184 4) s0.1
    have u0 : ia_E (w.1 184 4) + 1 ≤ ia_E (w'.1 184 4) + 1 := s0.2.1.resolve_left (by decide)
    have v0 := hb_E (w.1 184 4)
    have y0 := hb_E (w'.1 184 4)
    have s1 := hs _ (List.mem_cons_of_mem _ List.mem_cons_self)
    have t1 := hb_in (lo := 2147483649) (hi := 2147483649) (x := w'.1 184 11) s1.1
    have s2 := hs _ (List.mem_cons_of_mem _ (List.mem_cons_of_mem _ List.mem_cons_self))
    have t2 := hb_in (lo := 2147483649) (hi := 2147483668) (x := w'.1 187 4) s2.1
    exact ⟨x, w', hC, hG', hfr, Or.inr (Or.inl ⟨by omega, by omega, by omega, by omega, by omega, by omega, by omega⟩)⟩
  · obtain ⟨x, rfl, hx⟩ := wk_int hr
    have hx := hb_in hx
    have s0 := hs _ List.mem_cons_self
    have t0 := hb_in (lo := 2147483648) (hi := 2147484588) (x := w'.1 184 4) s0.1
    have u0 : ia_E (w.1 184 4) + 1 ≤ ia_E (w'.1 184 4) + 1 := s0.2.1.resolve_left (by decide)
    have v0 := hb_E (w.1 184 4)
    have y0 := hb_E (w'.1 184 4)
    have s1 := hs _ (List.mem_cons_of_mem _ List.mem_cons_self)
    have t1 := hb_in (lo := 2147483650) (hi := 2147483650) (x := w'.1 184 11) s1.1
    have s2 := hs _ (List.mem_cons_of_mem _ (List.mem_cons_of_mem _ List.mem_cons_self))
    have t2 := hb_in (lo := 2147483649) (hi := 2147483668) (x := w'.1 187 4) s2.1
    exact ⟨x, w', hC, hG', hfr, Or.inr (Or.inr (Or.inl ⟨by omega, by omega, by omega, by omega, by omega, by omega, by omega⟩))⟩
  · obtain ⟨x, rfl, hx⟩ := wk_int hr
    have hx := hb_in hx
    have s0 := hs _ List.mem_cons_self
    have t0 := hb_in (lo := 2147483648) (hi := 2147484588) (x := w'.1 184 4) s0.1
    have u0 : ia_E (w.1 184 4) + 1 ≤ ia_E (w'.1 184 4) + 1 := s0.2.1.resolve_left (by decide)
    have v0 := hb_E (w.1 184 4)
    have y0 := hb_E (w'.1 184 4)
    have s1 := hs _ (List.mem_cons_of_mem _ List.mem_cons_self)
    have t1 := hb_in (lo := 2147483650) (hi := 2147483650) (x := w'.1 184 11) s1.1
    have s3 := hs _ (List.mem_cons_of_mem _ (List.mem_cons_of_mem _ (List.mem_cons_of_mem _ List.mem_cons_self)))
    have t3 := hb_in (lo := 2147483649) (hi := 2147483668) (x := w'.1 187 4) s3.1
    exact ⟨x, w', hC, hG', hfr, Or.inr (Or.inr (Or.inr (Or.inl ⟨by omega, by omega, by omega, by omega, by omega, by omega, by omega⟩)))⟩
  · obtain ⟨x, rfl, hx⟩ := wk_int hr
    have hx := hb_in hx
    have s0 := hs _ List.mem_cons_self
    have t0 := hb_in (lo := 2147483648) (hi := 2147484588) (x := w'.1 184 4) s0.1
    have u0 : ia_E (w.1 184 4) + 1 ≤ ia_E (w'.1 184 4) + 1 := s0.2.1.resolve_left (by decide)
    have v0 := hb_E (w.1 184 4)
    have y0 := hb_E (w'.1 184 4)
    have s1 := hs _ (List.mem_cons_of_mem _ List.mem_cons_self)
    have t1 := hb_in (lo := 2147483649) (hi := 2147483649) (x := w'.1 184 11) s1.1
    have s3 := hs _ (List.mem_cons_of_mem _ (List.mem_cons_of_mem _ (List.mem_cons_of_mem _ List.mem_cons_self)))
    have t3 := hb_in (lo := 2147483649) (hi := 2147483668) (x := w'.1 187 4) s3.1
    exact ⟨x, w', hC, hG', hfr, Or.inr (Or.inr (Or.inr (Or.inr (Or.inl ⟨by omega, by omega, by omega, by omega, by omega, by omega, by omega⟩))))⟩
  · obtain ⟨x, rfl, hx⟩ := wk_int hr
    have hx := hb_in hx
    have s0 := hs _ List.mem_cons_self
    have t0 := hb_in (lo := 2147483648) (hi := 2147484588) (x := w'.1 184 4) s0.1
    have u0 : ia_E (w.1 184 4) + 2 ≤ ia_E (w'.1 184 4) + 1 := s0.2.1.resolve_left (by decide)
    have v0 := hb_E (w.1 184 4)
    have y0 := hb_E (w'.1 184 4)
    have s1 := hs _ (List.mem_cons_of_mem _ List.mem_cons_self)
    have t1 := hb_in (lo := 2147483652) (hi := 2147483652) (x := w'.1 184 11) s1.1
    have s3 := hs _ (List.mem_cons_of_mem _ (List.mem_cons_of_mem _ (List.mem_cons_of_mem _ List.mem_cons_self)))
    have t3 := hb_in (lo := 2147483649) (hi := 2147483668) (x := w'.1 187 4) s3.1
    exact ⟨x, w', hC, hG', hfr, Or.inr (Or.inr (Or.inr (Or.inr (Or.inr (Or.inl ⟨by omega, by omega, by omega, by omega, by omega, by omega, by omega⟩)))))⟩
  · obtain ⟨x, rfl, hx⟩ := wk_int hr
    have hx := hb_in hx
    have s0 := hs _ List.mem_cons_self
    have t0 := hb_in (lo := 2147483649) (hi := 2147484588) (x := w'.1 184 4) s0.1
    have u0 : ia_E (w.1 184 4) + 2 ≤ ia_E (w'.1 184 4) + 1 := s0.2.1.resolve_left (by decide)
    have v0 := hb_E (w.1 184 4)
    have y0 := hb_E (w'.1 184 4)
    have s1 := hs _ (List.mem_cons_of_mem _ List.mem_cons_self)
    have t1 := hb_in (lo := 2147483651) (hi := 2147483651) (x := w'.1 184 11) s1.1
    have s3 := hs _ (List.mem_cons_of_mem _ (List.mem_cons_of_mem _ (List.mem_cons_of_mem _ List.mem_cons_self)))
    have t3 := hb_in (lo := 2147483649) (hi := 2147483668) (x := w'.1 187 4) s3.1
    exact ⟨x, w', hC, hG', hfr, Or.inr (Or.inr (Or.inr (Or.inr (Or.inr (Or.inr (Or.inl ⟨by omega, by omega, by omega, by omega, by omega, by omega, by omega⟩))))))⟩
  · obtain ⟨x, rfl, hx⟩ := wk_int hr
    have hx := hb_in hx
    have s0 := hs _ List.mem_cons_self
    have t0 := hb_in (lo := 2147483648) (hi := 2147484588) (x := w'.1 184 4) s0.1
    have u0 : ia_E (w.1 184 4) + 1 ≤ ia_E (w'.1 184 4) + 1 := s0.2.1.resolve_left (by decide)
    have v0 := hb_E (w.1 184 4)
    have y0 := hb_E (w'.1 184 4)
    have s1 := hs _ (List.mem_cons_of_mem _ List.mem_cons_self)
    have t1 := hb_in (lo := 2147483648) (hi := 2147483648) (x := w'.1 184 11) s1.1
    have s3 := hs _ (List.mem_cons_of_mem _ (List.mem_cons_of_mem _ (List.mem_cons_of_mem _ List.mem_cons_self)))
    have t3 := hb_in (lo := 2147483649) (hi := 2147483668) (x := w'.1 187 4) s3.1
    exact ⟨x, w', hC, hG', hfr, Or.inr (Or.inr (Or.inr (Or.inr (Or.inr (Or.inr (Or.inr (Or.inl ⟨by omega, by omega, by omega, by omega, by omega, by omega, by omega⟩)))))))⟩
  · obtain ⟨x, rfl, hx⟩ := wk_int hr
    have hx := hb_in hx
    have s0 := hs _ List.mem_cons_self
    have t0 := hb_in (lo := 2147483648) (hi := 2147484588) (x := w'.1 184 4) s0.1
    have u0 : ia_E (w.1 184 4) + 1 ≤ ia_E (w'.1 184 4) + 1 := s0.2.1.resolve_left (by decide)
    have v0 := hb_E (w.1 184 4)
    have y0 := hb_E (w'.1 184 4)
    have s1 := hs _ (List.mem_cons_of_mem _ List.mem_cons_self)
    have t1 := hb_in (lo := 2147483652) (hi := 2147483652) (x := w'.1 184 11) s1.1
    have s3 := hs _ (List.mem_cons_of_mem _ (List.mem_cons_of_mem _ (List.mem_cons_of_mem _ List.mem_cons_self)))
    have t3 := hb_in (lo := 2147483649) (hi := 2147483668) (x := w'.1 187 4) s3.1
    exact ⟨x, w', hC, hG', hfr, Or.inr (Or.inr (Or.inr (Or.inr (Or.inr (Or.inr (Or.inr (Or.inr (Or.inl ⟨by omega, by omega, by omega, by omega, by omega, by omega, by omega⟩))))))))⟩
  · obtain ⟨x, rfl, hx⟩ := wk_int hr
    have hx := hb_in hx
    have s0 := hs _ List.mem_cons_self
    have t0 := hb_in (lo := 2147483648) (hi := 2147484588) (x := w'.1 184 4) s0.1
    have u0 : ia_E (w.1 184 4) + 2 ≤ ia_E (w'.1 184 4) + 1 := s0.2.1.resolve_left (by decide)
    have v0 := hb_E (w.1 184 4)
    have y0 := hb_E (w'.1 184 4)
    have s1 := hs _ (List.mem_cons_of_mem _ List.mem_cons_self)
    have t1 := hb_in (lo := 2147483649) (hi := 2147483668) (x := w'.1 187 4) s1.1
    exact ⟨x, w', hC, hG', hfr, Or.inr (Or.inr (Or.inr (Or.inr (Or.inr (Or.inr (Or.inr (Or.inr (Or.inr (Or.inl ⟨by omega, by omega, by omega, by omega, by omega, by omega⟩)))))))))⟩
  · obtain ⟨x, rfl, hx⟩ := wk_int hr
    have hx := hb_in hx
    have s0 := hs _ List.mem_cons_self
    have t0 := hb_in (lo := 2147483648) (hi := 2147484588) (x := w'.1 184 4) s0.1
    have u0 : ia_E (w.1 184 4) + 2 ≤ ia_E (w'.1 184 4) + 1 := s0.2.1.resolve_left (by decide)
    have v0 := hb_E (w.1 184 4)
    have y0 := hb_E (w'.1 184 4)
    have s1 := hs _ (List.mem_cons_of_mem _ List.mem_cons_self)
    have t1 := hb_in (lo := 2147483650) (hi := 2147483650) (x := w'.1 184 11) s1.1
    have s2 := hs _ (List.mem_cons_of_mem _ (List.mem_cons_of_mem _ List.mem_cons_self))
    have t2 := hb_in (lo := 2147483649) (hi := 2147483668) (x := w'.1 187 4) s2.1
    exact ⟨x, w', hC, hG', hfr, Or.inr (Or.inr (Or.inr (Or.inr (Or.inr (Or.inr (Or.inr (Or.inr (Or.inr (Or.inr (Or.inl ⟨by omega, by omega, by omega, by omega, by omega, by omega, by omega⟩))))))))))⟩
  · obtain ⟨x, rfl, hx⟩ := wk_int hr
    have hx := hb_in hx
    have s0 := hs _ List.mem_cons_self
    have t0 := hb_in (lo := 2147483648) (hi := 2147484588) (x := w'.1 184 4) s0.1
    have u0 : ia_E (w.1 184 4) + 2 ≤ ia_E (w'.1 184 4) + 1 := s0.2.1.resolve_left (by decide)
    have v0 := hb_E (w.1 184 4)
    have y0 := hb_E (w'.1 184 4)
    have s1 := hs _ (List.mem_cons_of_mem _ List.mem_cons_self)
    have t1 := hb_in (lo := 2147483650) (hi := 2147483650) (x := w'.1 184 11) s1.1
    have s3 := hs _ (List.mem_cons_of_mem _ (List.mem_cons_of_mem _ (List.mem_cons_of_mem _ List.mem_cons_self)))
    have t3 := hb_in (lo := 2147483649) (hi := 2147483668) (x := w'.1 187 4) s3.1
    exact ⟨x, w', hC, hG', hfr, Or.inr (Or.inr (Or.inr (Or.inr (Or.inr (Or.inr (Or.inr (Or.inr (Or.inr (Or.inr (Or.inr (Or.inl ⟨by omega, by omega, by omega, by omega, by omega, by omega, by omega⟩)))))))))))⟩
  · obtain ⟨x, rfl, hx⟩ := wk_int hr
    have hx := hb_in hx
    have s0 := hs _ List.mem_cons_self
    have t0 := hb_in (lo := 2147483648) (hi := 2147484588) (x := w'.1 184 4) s0.1
    have u0 : ia_E (w.1 184 4) + 2 ≤ ia_E (w'.1 184 4) + 1 := s0.2.1.resolve_left (by decide)
    have v0 := hb_E (w.1 184 4)
    have y0 := hb_E (w'.1 184 4)
    have s1 := hs _ (List.mem_cons_of_mem _ List.mem_cons_self)
    have t1 := hb_in (lo := 2147483649) (hi := 2147483649) (x := w'.1 184 11) s1.1
    have s3 := hs _ (List.mem_cons_of_mem _ (List.mem_cons_of_mem _ (List.mem_cons_of_mem _ List.mem_cons_self)))
    have t3 := hb_in (lo := 2147483649) (hi := 2147483668) (x := w'.1 187 4) s3.1
    exact ⟨x, w', hC, hG', hfr, Or.inr (Or.inr (Or.inr (Or.inr (Or.inr (Or.inr (Or.inr (Or.inr (Or.inr (Or.inr (Or.inr (Or.inr (Or.inl ⟨by omega, by omega, by omega, by omega, by omega, by omega, by omega⟩))))))))))))⟩
  · obtain ⟨x, rfl, hx⟩ := wk_int hr
    have hx := hb_in hx
    have s0 := hs _ List.mem_cons_self
    have t0 := hb_in (lo := 2147483648) (hi := 2147484588) (x := w'.1 184 4) s0.1
    have u0 : ia_E (w.1 184 4) + 2 ≤ ia_E (w'.1 184 4) + 1 := s0.2.1.resolve_left (by decide)
    have v0 := hb_E (w.1 184 4)
    have y0 := hb_E (w'.1 184 4)
    have s1 := hs _ (List.mem_cons_of_mem _ List.mem_cons_self)
    have t1 := hb_in (lo := 2147483648) (hi := 2147483648) (x := w'.1 184 11) s1.1
    have s3 := hs _ (List.mem_cons_of_mem _ (List.mem_cons_of_mem _ (List.mem_cons_of_mem _ List.mem_cons_self)))
    have t3 := hb_in (lo := 2147483649) (hi := 2147483668) (x := w'.1 187 4) s3.1
    exact ⟨x, w', hC, hG', hfr, Or.inr (Or.inr (Or.inr (Or.inr (Or.inr (Or.inr (Or.inr (Or.inr (Or.inr (Or.inr (Or.inr (Or.inr (Or.inr (Or.inl ⟨by omega, by omega, by omega, by omega, by omega, by omega, by omega⟩)))))))))))))⟩
  · obtain ⟨x, rfl, hx⟩ := wk_int hr
    have hx := hb_in hx
    have s0 := hs _ List.mem_cons_self
    have t0 := hb_in (lo := 2147483648) (hi := 2147484588) (x := w'.1 184 4) s0.1
    have u0 : ia_E (w.1 184 4) + 2 ≤ ia_E (w'.1 184 4) + 1 := s0.2.1.resolve_left (by decide)
    have v0 := hb_E (w.1 184 4)
    have y0 := hb_E (w'.1 184 4)
    have s1 := hs _ (List.mem_cons_of_mem _ List.mem_cons_self)
    have t1 := hb_in (lo := 2147483649) (hi := 2147483649) (x := w'.1 184 11) s1.1
    have s2 := hs _ (List.mem_cons_of_mem _ (List.mem_cons_of_mem _ List.mem_cons_self))
    have t2 := hb_in (lo := 2147483649) (hi := 2147483668) (x := w'.1 187 4) s2.1
    exact ⟨x, w', hC, hG', hfr, Or.inr (Or.inr (Or.inr (Or.inr (Or.inr (Or.inr (Or.inr (Or.inr (Or.inr (Or.inr (Or.inr (Or.inr (Or.inr (Or.inr (Or.inl ⟨by omega, by omega, by omega, by omega, by omega, by omega, by omega⟩))))))))))))))⟩
  · obtain ⟨x, rfl, hx⟩ := wk_int hr
    have hx := hb_in hx
    have s0 := hs _ List.mem_cons_self
    have t0 := hb_in (lo := 2147483649) (hi := 2147484588) (x := w'.1 184 4) s0.1
    have u0 : ia_E (w.1 184 4) + 2 ≤ ia_E (w'.1 184 4) + 1 := s0.2.1.resolve_left (by decide)
    have v0 := hb_E (w.1 184 4)
    have y0 := hb_E (w'.1 184 4)
    have s1 := hs _ (List.mem_cons_of_mem _ List.mem_cons_self)
    have t1 := hb_in (lo := 2147483651) (hi := 2147483651) (x := w'.1 184 11) s1.1
    have s2 := hs _ (List.mem_cons_of_mem _ (List.mem_cons_of_mem _ List.mem_cons_self))
    have t2 := hb_in (lo := 2147483649) (hi := 2147483668) (x := w'.1 187 4) s2.1
    exact ⟨x, w', hC, hG', hfr, Or.inr (Or.inr (Or.inr (Or.inr (Or.inr (Or.inr (Or.inr (Or.inr (Or.inr (Or.inr (Or.inr (Or.inr (Or.inr (Or.inr (Or.inr (Or.inl ⟨by omega, by omega, by omega, by omega, by omega, by omega, by omega⟩)))))))))))))))⟩
  · obtain ⟨x, rfl, hx⟩ := wk_int hr
    have hx := hb_in hx
    have s0 := hs _ List.mem_cons_self
    have t0 := hb_in (lo := 2147483648) (hi := 2147484588) (x := w'.1 184 4) s0.1
    have u0 : ia_E (w.1 184 4) + 1 ≤ ia_E (w'.1 184 4) + 1 := s0.2.1.resolve_left (by decide)
    have v0 := hb_E (w.1 184 4)
    have y0 := hb_E (w'.1 184 4)
    have s1 := hs _ (List.mem_cons_of_mem _ List.mem_cons_self)
    have t1 := hb_in (lo := 2147483652) (hi := 2147483652) (x := w'.1 184 11) s1.1
    have s2 := hs _ (List.mem_cons_of_mem _ (List.mem_cons_of_mem _ List.mem_cons_self))
    have t2 := hb_in (lo := 2147483649) (hi := 2147483668) (x := w'.1 187 4) s2.1
    exact ⟨x, w', hC, hG', hfr, Or.inr (Or.inr (Or.inr (Or.inr (Or.inr (Or.inr (Or.inr (Or.inr (Or.inr (Or.inr (Or.inr (Or.inr (Or.inr (Or.inr (Or.inr (Or.inr (Or.inl ⟨by omega, by omega, by omega, by omega, by omega, by omega, by omega⟩))))))))))))))))⟩
  · obtain ⟨x, rfl, hx⟩ := wk_int hr
    have hx := hb_in hx
    have s0 := hs _ List.mem_cons_self
    have t0 := hb_in (lo := 2147483648) (hi := 2147484588) (x := w'.1 184 4) s0.1
    have u0 : ia_E (w.1 184 4) + 2 ≤ ia_E (w'.1 184 4) + 1 := s0.2.1.resolve_left (by decide)
    have v0 := hb_E (w.1 184 4)
    have y0 := hb_E (w'.1 184 4)
    have s1 := hs _ (List.mem_cons_of_mem _ List.mem_cons_self)
    have t1 := hb_in (lo := 2147483648) (hi := 2147483648) (x := w'.1 184 11) s1.1
    have s4 := hs _ (List.mem_cons_of_mem _ (List.mem_cons_of_mem _ (List.mem_cons_of_mem _ (List.mem_cons_of_mem _ List.mem_cons_self))))
    have t4 := hb_in (lo := 2147483649) (hi := 2147483668) (x := w'.1 187 4) s4.1
    exact ⟨x, w', hC, hG', hfr, Or.inr (Or.inr (Or.inr (Or.inr (Or.inr (Or.inr (Or.inr (Or.inr (Or.inr (Or.inr (Or.inr (Or.inr (Or.inr (Or.inr (Or.inr (Or.inr (Or.inr (Or.inl ⟨by omega, by omega, by omega, by omega, by omega, by omega, by omega⟩)))))))))))))))))⟩
  · obtain ⟨x, rfl, hx⟩ := wk_int hr
    have hx := hb_in hx
    have s0 := hs _ List.mem_cons_self
    have t0 := hb_in (lo := 2147483648) (hi := 2147484588) (x := w'.1 184 4) s0.1
    have u0 : ia_E (w.1 184 4) + 2 ≤ ia_E (w'.1 184 4) + 1 := s0.2.1.resolve_left (by decide)
    have v0 := hb_E (w.1 184 4)
    have y0 := hb_E (w'.1 184 4)
    have s1 := hs _ (List.mem_cons_of_mem _ List.mem_cons_self)
    have t1 := hb_in (lo := 2147483652) (hi := 2147483652) (x := w'.1 184 11) s1.1
    have s4 := hs _ (List.mem_cons_of_mem _ (List.mem_cons_of_mem _ (List.mem_cons_of_mem _ (List.mem_cons_of_mem _ List.mem_cons_self))))
    have t4 := hb_in (lo := 2147483649) (hi := 2147483668) (x := w'.1 187 4) s4.1
    exact ⟨x, w', hC, hG', hfr, Or.inr (Or.inr (Or.inr (Or.inr (Or.inr (Or.inr (Or.inr (Or.inr (Or.inr (Or.inr (Or.inr (Or.inr (Or.inr (Or.inr (Or.inr (Or.inr (Or.inr (Or.inr (Or.inl ⟨by omega, by omega, by omega, by omega, by omega, by omega, by omega⟩))))))))))))))))))⟩
  · obtain ⟨x, rfl, hx⟩ := wk_int hr
    have hx := hb_in hx
    have s0 := hs _ List.mem_cons_self
    have t0 := hb_in (lo := 2147483648) (hi := 2147484588) (x := w'.1 184 4) s0.1
    have u0 : ia_E (w.1 184 4) + 1 ≤ ia_E (w'.1 184 4) + 1 := s0.2.1.resolve_left (by decide)
    have v0 := hb_E (w.1 184 4)
    have y0 := hb_E (w'.1 184 4)
    have s1 := hs _ (List.mem_cons_of_mem _ List.mem_cons_self)
    have t1 := hb_in (lo := 2147483648) (hi := 2147483648) (x := w'.1 184 11) s1.1
    have s4 := hs _ (List.mem_cons_of_mem _ (List.mem_cons_of_mem _ (List.mem_cons_of_mem _ (List.mem_cons_of_mem _ List.mem_cons_self))))
    have t4 := hb_in (lo := 2147483649) (hi := 2147483668) (x := w'.1 187 4) s4.1
    exact ⟨x, w', hC, hG', hfr, Or.inr (Or.inr (Or.inr (Or.inr (Or.inr (Or.inr (Or.inr (Or.inr (Or.inr (Or.inr (Or.inr (Or.inr (Or.inr (Or.inr (Or.inr (Or.inr (Or.inr (Or.inr (Or.inr (⟨by omega, by omega, by omega, by omega, by omega, by omega, by omega⟩)))))))))))))))))))⟩
set_option maxRecDepth 100000 in
theorem xs_273_ea1d0a48_f166 {w : cm_W} (f1 : 4 ≤ (w.1 184 11).toInt ∧ (w.1 184 11).toInt ≤ 4) (f7 : 1 ≤ (w.1 187 4).toInt ∧ (w.1 187 4).toInt ≤ 20) (hG : sv_w sg w) : ∃ x : Int32, ∃ w' : cm_W, cm_C 2 273 [.inr (.inr (some 184))] w (some (.inl x), w') ∧ sv_w sg w' ∧ (∀ k i, ¬ ((k = 184 ∧ 15 ≤ i ∧ i ≤ 16)) → w'.1 k i = w.1 k i ∧ w'.2 k i = w.2 k i) ∧ ((x.toInt = 0 ∧ 0 ≤ (w'.1 184 4).toInt ∧ (w'.1 184 4).toInt ≤ 940 ∧ (w.1 184 4).toInt + 1 ≤ (w'.1 184 4).toInt + 1 ∧ (w'.1 184 11).toInt = 4 ∧ 1 ≤ (w'.1 187 4).toInt ∧ (w'.1 187 4).toInt ≤ 20)) := by
  obtain ⟨r, w', hC, hG', hF, q, hq, hr, hp, hs⟩ := wk_use (d := 2) sm_273_ea1d0a48_ok (by decide) (as := [.inr (.inr (some 184))]) (w := w) ⟨rfl, trivial⟩ (fun f hf => by
    rcases List.mem_cons.mp hf with rfl | hf
    · exact ⟨(by have h9 := hG 184 4; rw [xg_efb20a0a] at h9; exact h9), .inr (Nat.le_refl _), .inl rfl⟩
    rcases List.mem_cons.mp hf with rfl | hf
    · exact ⟨(hb_mk (lo := 2147483652) (hi := 2147483652) (x := w.1 184 11) (by have := f1.1; omega) (by have := f1.2; omega)), .inl rfl, .inl rfl⟩
    rcases List.mem_cons.mp hf with rfl | hf
    · exact ⟨(sv_in_top _), .inl rfl, .inl rfl⟩
    rcases List.mem_cons.mp hf with rfl | hf
    · exact ⟨(by have h9 := hG 187 0; rw [xg_a93c74c7] at h9; exact h9), .inl rfl, .inl rfl⟩
    rcases List.mem_cons.mp hf with rfl | hf
    · exact ⟨(by have h9 := hG 187 1; rw [xg_fed32e5c] at h9; exact h9), .inl rfl, .inl rfl⟩
    rcases List.mem_cons.mp hf with rfl | hf
    · exact ⟨(by have h9 := hG 187 2; rw [xg_aa578efd] at h9; exact h9), .inl rfl, .inl rfl⟩
    rcases List.mem_cons.mp hf with rfl | hf
    · exact ⟨(by have h9 := hG 187 3; rw [xg_07573cec] at h9; exact h9), .inl rfl, .inl rfl⟩
    rcases List.mem_cons.mp hf with rfl | hf
    · exact ⟨(hb_mk (lo := 2147483649) (hi := 2147483668) (x := w.1 187 4) (by have := f7.1; omega) (by have := f7.2; omega)), .inl rfl, .inl rfl⟩
    cases hf) hG
  have hfr : ∀ k i, ¬ ((k = 184 ∧ 15 ≤ i ∧ i ≤ 16)) → w'.1 k i = w.1 k i ∧ w'.2 k i = w.2 k i := fun k i hki => hF k i (fun ⟨r, z, z1, z2, z3⟩ => by
    simp only [sm_273_ea1d0a48, List.mem_cons, List.not_mem_nil, or_false] at z
    rcases z with rfl
    all_goals (simp only at z1 z2 z3; omega))
  simp only [sm_273_ea1d0a48, List.mem_cons, List.not_mem_nil, or_false] at hq
  rcases hq with rfl
  · obtain ⟨x, rfl, hx⟩ := wk_int hr
    have hx := hb_in hx
    have s0 := hs _ List.mem_cons_self
    have t0 := hb_in (lo := 2147483648) (hi := 2147484588) (x := w'.1 184 4) s0.1
    have u0 : ia_E (w.1 184 4) + 1 ≤ ia_E (w'.1 184 4) + 1 := s0.2.1.resolve_left (by decide)
    have v0 := hb_E (w.1 184 4)
    have y0 := hb_E (w'.1 184 4)
    have s1 := hs _ (List.mem_cons_of_mem _ List.mem_cons_self)
    have t1 := hb_in (lo := 2147483652) (hi := 2147483652) (x := w'.1 184 11) s1.1
    have s2 := hs _ (List.mem_cons_of_mem _ (List.mem_cons_of_mem _ List.mem_cons_self))
    have t2 := hb_in (lo := 2147483649) (hi := 2147483668) (x := w'.1 187 4) s2.1
    exact ⟨x, w', hC, hG', hfr, ⟨by omega, by omega, by omega, by omega, by omega, by omega, by omega⟩⟩
set_option maxRecDepth 100000 in
theorem xs_283_a233713d_8f13 {a1 : Int32} {w : cm_W} (f1 : 3 ≤ (w.1 184 11).toInt ∧ (w.1 184 11).toInt ≤ 3) (hG : sv_w sg w) : ∃ x : Int32, ∃ w' : cm_W, cm_C 3 283 [.inr (.inr (some 184)), .inl a1] w (some (.inl x), w') ∧ sv_w sg w' ∧ (∀ k i, ¬ ((k = 184 ∧ i = 4) ∨ (k = 184 ∧ 11 ≤ i ∧ i ≤ 17)) → w'.1 k i = w.1 k i ∧ w'.2 k i = w.2 k i) ∧ ((x.toInt = 0 ∧ 0 ≤ (w'.1 184 4).toInt ∧ (w'.1 184 4).toInt ≤ 940 ∧ (w.1 184 4).toInt + 1 ≤ (w'.1 184 4).toInt + 1 ∧ (w'.1 184 11).toInt = 3) ∨ (x.toInt = 1 ∧ 0 ≤ (w'.1 184 4).toInt ∧ (w'.1 184 4).toInt ≤ 940 ∧ (w.1 184 4).toInt + 1 ≤ (w'.1 184 4).toInt + 1 ∧ (w'.1 184 11).toInt = 2) ∨ (x.toInt = 1 ∧ 0 ≤ (w'.1 184 4).toInt ∧ (w'.1 184 4).toInt ≤ 940 ∧ (w.1 184 4).toInt + 1 ≤ (w'.1 184 4).toInt + 1 ∧ (w'.1 184 11).toInt = 1) ∨ (x.toInt = 1 ∧ 1 ≤ (w'.1 184 4).toInt ∧ (w'.1 184 4).toInt ≤ 940 ∧ (w.1 184 4).toInt + 2 ≤ (w'.1 184 4).toInt + 1 ∧ (w'.1 184 11).toInt = 4) ∨ (x.toInt = 1 ∧ 1 ≤ (w'.1 184 4).toInt ∧ (w'.1 184 4).toInt ≤ 940 ∧ (w.1 184 4).toInt + 2 ≤ (w'.1 184 4).toInt + 1 ∧ (w'.1 184 11).toInt = 3) ∨ (x.toInt = 1 ∧ 0 ≤ (w'.1 184 4).toInt ∧ (w'.1 184 4).toInt ≤ 940 ∧ (w.1 184 4).toInt + 1 ≤ (w'.1 184 4).toInt + 1 ∧ (w'.1 184 11).toInt = 0) ∨ (x.toInt = 1 ∧ 0 ≤ (w'.1 184 4).toInt ∧ (w'.1 184 4).toInt ≤ 940 ∧ (w.1 184 4).toInt + 1 ≤ (w'.1 184 4).toInt + 1 ∧ (w'.1 184 11).toInt = 4)) := by
  obtain ⟨r, w', hC, hG', hF, q, hq, hr, hp, hs⟩ := wk_use (d := 3) sm_283_a233713d_ok (by decide) (as := [.inr (.inr (some 184)), .inl a1]) (w := w) ⟨rfl, sv_in_top _, trivial⟩ (fun f hf => by
    rcases List.mem_cons.mp hf with rfl | hf
    · exact ⟨(by have h9 := hG 184 4; rw [xg_efb20a0a] at h9; exact h9), .inr (Nat.le_refl _), .inl rfl⟩
    rcases List.mem_cons.mp hf with rfl | hf
    · exact ⟨(hb_mk (lo := 2147483651) (hi := 2147483651) (x := w.1 184 11) (by have := f1.1; omega) (by have := f1.2; omega)), .inl rfl, .inl rfl⟩
    rcases List.mem_cons.mp hf with rfl | hf
    · exact ⟨(sv_in_top _), .inl rfl, .inl rfl⟩
    cases hf) hG
  have hfr : ∀ k i, ¬ ((k = 184 ∧ i = 4) ∨ (k = 184 ∧ 11 ≤ i ∧ i ≤ 17)) → w'.1 k i = w.1 k i ∧ w'.2 k i = w.2 k i := fun k i hki => hF k i (fun ⟨r, z, z1, z2, z3⟩ => by
    simp only [sm_283_a233713d, List.mem_cons, List.not_mem_nil, or_false] at z
    rcases z with rfl | rfl
    all_goals (simp only at z1 z2 z3; omega))
  simp only [sm_283_a233713d, List.mem_cons, List.not_mem_nil, or_false] at hq
  rcases hq with rfl | rfl | rfl | rfl | rfl | rfl | rfl
  · obtain ⟨x, rfl, hx⟩ := wk_int hr
    have hx := hb_in hx
    have s0 := hs _ List.mem_cons_self
    have t0 := hb_in (lo := 2147483648) (hi := 2147484588) (x := w'.1 184 4) s0.1
    have u0 : ia_E (w.1 184 4) + 1 ≤ ia_E (w'.1 184 4) + 1 := s0.2.1.resolve_left (by decide)
    have v0 := hb_E (w.1 184 4)
    have y0 := hb_E (w'.1 184 4)
    have s1 := hs _ (List.mem_cons_of_mem _ List.mem_cons_self)
    have t1 := hb_in (lo := 2147483651) (hi := 2147483651) (x := w'.1 184 11) s1.1
    exact ⟨x, w', hC, hG', hfr, Or.inl ⟨by omega, by omega, by omega, by omega, by omega⟩⟩
  · obtain ⟨x, rfl, hx⟩ := wk_int hr
    have hx := hb_in hx
    have s0 := hs _ List.mem_cons_self
    have t0 := hb_in (lo := 2147483648) (hi := 2147484588) (x := w'.1 184 4) s0.1
    have u0 : ia_E (w.1 184 4) + 1 ≤ ia_E (w'.1 184 4) + 1 := s0.2.1.resolve_left (by decide)
    have v0 := hb_E (w.1 184 4)
    have y0 := hb_E (w'.1 184 4)
    have s1 := hs _ (List.mem_cons_of_mem _ List.mem_cons_self)
    have t1 := hb_in (lo := 2147483650) (hi := 2147483650) (x := w'.1 184 11) s1.1
    exact ⟨x, w', hC, hG', hfr, Or.inr (Or.inl ⟨by omega, by omega, by omega, by omega, by omega⟩)⟩
  · obtain ⟨x, rfl, hx⟩ := wk_int hr
    have hx := hb_in hx
    have s0 := hs _ List.mem_cons_self
    have t0 := hb_in (lo := 2147483648) (hi := 2147484588) (x := w'.1 184 4) s0.1
    have u0 : ia_E (w.1 184 4) + 1 ≤ ia_E (w'.1 184 4) + 1 := s0.2.1.resolve_left (by decide)
    have v0 := hb_E (w.1 184 4)
    have y0 := hb_E (w'.1 184 4)
    have s1 := hs _ (List.mem_cons_of_mem _ List.mem_cons_self)
    have t1 := hb_in (lo := 2147483649) (hi := 2147483649) (x := w'.1 184 11) s1.1
    exact ⟨x, w', hC, hG', hfr, Or.inr (Or.inr (Or.inl ⟨by omega, by omega, by omega, by omega, by omega⟩))⟩
  · obtain ⟨x, rfl, hx⟩ := wk_int hr
    have hx := hb_in hx
    have s0 := hs _ List.mem_cons_self
    have t0 := hb_in (lo := 2147483649) (hi := 2147484588) (x := w'.1 184 4) s0.1
    have u0 : ia_E (w.1 184 4) + 2 ≤ ia_E (w'.1 184 4) + 1 := s0.2.1.resolve_left (by decide)
    have v0 := hb_E (w.1 184 4)
    have y0 := hb_E (w'.1 184 4)
    have s1 := hs _ (List.mem_cons_of_mem _ List.mem_cons_self)
    have t1 := hb_in (lo := 2147483652) (hi := 2147483652) (x := w'.1 184 11) s1.1
    exact ⟨x, w', hC, hG', hfr, Or.inr (Or.inr (Or.inr (Or.inl ⟨by omega, by omega, by omega, by omega, by omega⟩)))⟩
  · obtain ⟨x, rfl, hx⟩ := wk_int hr
    have hx := hb_in hx
    have s0 := hs _ List.mem_cons_self
    have t0 := hb_in (lo := 2147483649) (hi := 2147484588) (x := w'.1 184 4) s0.1
    have u0 : ia_E (w.1 184 4) + 2 ≤ ia_E (w'.1 184 4) + 1 := s0.2.1.resolve_left (by decide)
    have v0 := hb_E (w.1 184 4)
    have y0 := hb_E (w'.1 184 4)
    have s1 := hs _ (List.mem_cons_of_mem _ List.mem_cons_self)
    have t1 := hb_in (lo := 2147483651) (hi := 2147483651) (x := w'.1 184 11) s1.1
    exact ⟨x, w', hC, hG', hfr, Or.inr (Or.inr (Or.inr (Or.inr (Or.inl ⟨by omega, by omega, by omega, by omega, by omega⟩))))⟩
  · obtain ⟨x, rfl, hx⟩ := wk_int hr
    have hx := hb_in hx
    have s0 := hs _ List.mem_cons_self
    have t0 := hb_in (lo := 2147483648) (hi := 2147484588) (x := w'.1 184 4) s0.1
    have u0 : ia_E (w.1 184 4) + 1 ≤ ia_E (w'.1 184 4) + 1 := s0.2.1.resolve_left (by decide)
    have v0 := hb_E (w.1 184 4)
    have y0 := hb_E (w'.1 184 4)
    have s1 := hs _ (List.mem_cons_of_mem _ List.mem_cons_self)
    have t1 := hb_in (lo := 2147483648) (hi := 2147483648) (x := w'.1 184 11) s1.1
    exact ⟨x, w', hC, hG', hfr, Or.inr (Or.inr (Or.inr (Or.inr (Or.inr (Or.inl ⟨by omega, by omega, by omega, by omega, by omega⟩)))))⟩
  · obtain ⟨x, rfl, hx⟩ := wk_int hr
    have hx := hb_in hx
    have s0 := hs _ List.mem_cons_self
    have t0 := hb_in (lo := 2147483648) (hi := 2147484588) (x := w'.1 184 4) s0.1
    have u0 : ia_E (w.1 184 4) + 1 ≤ ia_E (w'.1 184 4) + 1 := s0.2.1.resolve_left (by decide)
    have v0 := hb_E (w.1 184 4)
    have y0 := hb_E (w'.1 184 4)
    have s1 := hs _ (List.mem_cons_of_mem _ List.mem_cons_self)
    have t1 := hb_in (lo := 2147483652) (hi := 2147483652) (x := w'.1 184 11) s1.1
    exact ⟨x, w', hC, hG', hfr, Or.inr (Or.inr (Or.inr (Or.inr (Or.inr (Or.inr (⟨by omega, by omega, by omega, by omega, by omega⟩))))))⟩
set_option maxRecDepth 100000 in
theorem xs_283_d10de614_8f13 {a1 : Int32} {w : cm_W} (f1 : 0 ≤ (w.1 184 11).toInt ∧ (w.1 184 11).toInt ≤ 0) (hG : sv_w sg w) : ∃ x : Int32, ∃ w' : cm_W, cm_C 2 283 [.inr (.inr (some 184)), .inl a1] w (some (.inl x), w') ∧ sv_w sg w' ∧ (∀ k i, ¬ ((k = 184 ∧ 15 ≤ i ∧ i ≤ 16)) → w'.1 k i = w.1 k i ∧ w'.2 k i = w.2 k i) ∧ ((x.toInt = 0 ∧ 0 ≤ (w'.1 184 4).toInt ∧ (w'.1 184 4).toInt ≤ 940 ∧ (w.1 184 4).toInt + 1 ≤ (w'.1 184 4).toInt + 1 ∧ (w'.1 184 11).toInt = 0)) := by
  obtain ⟨r, w', hC, hG', hF, q, hq, hr, hp, hs⟩ := wk_use (d := 2) sm_283_d10de614_ok (by decide) (as := [.inr (.inr (some 184)), .inl a1]) (w := w) ⟨rfl, sv_in_top _, trivial⟩ (fun f hf => by
    rcases List.mem_cons.mp hf with rfl | hf
    · exact ⟨(by have h9 := hG 184 4; rw [xg_efb20a0a] at h9; exact h9), .inr (Nat.le_refl _), .inl rfl⟩
    rcases List.mem_cons.mp hf with rfl | hf
    · exact ⟨(hb_mk (lo := 2147483648) (hi := 2147483648) (x := w.1 184 11) (by have := f1.1; omega) (by have := f1.2; omega)), .inl rfl, .inl rfl⟩
    rcases List.mem_cons.mp hf with rfl | hf
    · exact ⟨(sv_in_top _), .inl rfl, .inl rfl⟩
    cases hf) hG
  have hfr : ∀ k i, ¬ ((k = 184 ∧ 15 ≤ i ∧ i ≤ 16)) → w'.1 k i = w.1 k i ∧ w'.2 k i = w.2 k i := fun k i hki => hF k i (fun ⟨r, z, z1, z2, z3⟩ => by
    simp only [sm_283_d10de614, List.mem_cons, List.not_mem_nil, or_false] at z
    rcases z with rfl
    all_goals (simp only at z1 z2 z3; omega))
  simp only [sm_283_d10de614, List.mem_cons, List.not_mem_nil, or_false] at hq
  rcases hq with rfl
  · obtain ⟨x, rfl, hx⟩ := wk_int hr
    have hx := hb_in hx
    have s0 := hs _ List.mem_cons_self
    have t0 := hb_in (lo := 2147483648) (hi := 2147484588) (x := w'.1 184 4) s0.1
    have u0 : ia_E (w.1 184 4) + 1 ≤ ia_E (w'.1 184 4) + 1 := s0.2.1.resolve_left (by decide)
    have v0 := hb_E (w.1 184 4)
    have y0 := hb_E (w'.1 184 4)
    have s1 := hs _ (List.mem_cons_of_mem _ List.mem_cons_self)
    have t1 := hb_in (lo := 2147483648) (hi := 2147483648) (x := w'.1 184 11) s1.1
    exact ⟨x, w', hC, hG', hfr, ⟨by omega, by omega, by omega, by omega, by omega⟩⟩
set_option maxRecDepth 100000 in
theorem xs_283_4b807f5b_8f13 {a1 : Int32} {w : cm_W} (f1 : 1 ≤ (w.1 184 11).toInt ∧ (w.1 184 11).toInt ≤ 1) (hG : sv_w sg w) : ∃ x : Int32, ∃ w' : cm_W, cm_C 2 283 [.inr (.inr (some 184)), .inl a1] w (some (.inl x), w') ∧ sv_w sg w' ∧ (∀ k i, ¬ ((k = 184 ∧ 15 ≤ i ∧ i ≤ 16)) → w'.1 k i = w.1 k i ∧ w'.2 k i = w.2 k i) ∧ ((x.toInt = 0 ∧ 0 ≤ (w'.1 184 4).toInt ∧ (w'.1 184 4).toInt ≤ 940 ∧ (w.1 184 4).toInt + 1 ≤ (w'.1 184 4).toInt + 1 ∧ (w'.1 184 11).toInt = 1)) := by
  obtain ⟨r, w', hC, hG', hF, q, hq, hr, hp, hs⟩ := wk_use (d := 2) sm_283_4b807f5b_ok (by decide) (as := [.inr (.inr (some 184)), .inl a1]) (w := w) ⟨rfl, sv_in_top _, trivial⟩ (fun f hf => by
    rcases List.mem_cons.mp hf with rfl | hf
    · exact ⟨(by have h9 := hG 184 4; rw [xg_efb20a0a] at h9; exact h9), .inr (Nat.le_refl _), .inl rfl⟩
    rcases List.mem_cons.mp hf with rfl | hf
    · exact ⟨(hb_mk (lo := 2147483649) (hi := 2147483649) (x := w.1 184 11) (by have := f1.1; omega) (by have := f1.2; omega)), .inl rfl, .inl rfl⟩
    rcases List.mem_cons.mp hf with rfl | hf
    · exact ⟨(sv_in_top _), .inl rfl, .inl rfl⟩
    cases hf) hG
  have hfr : ∀ k i, ¬ ((k = 184 ∧ 15 ≤ i ∧ i ≤ 16)) → w'.1 k i = w.1 k i ∧ w'.2 k i = w.2 k i := fun k i hki => hF k i (fun ⟨r, z, z1, z2, z3⟩ => by
    simp only [sm_283_4b807f5b, List.mem_cons, List.not_mem_nil, or_false] at z
    rcases z with rfl
    all_goals (simp only at z1 z2 z3; omega))
  simp only [sm_283_4b807f5b, List.mem_cons, List.not_mem_nil, or_false] at hq
  rcases hq with rfl
  · obtain ⟨x, rfl, hx⟩ := wk_int hr
    have hx := hb_in hx
    have s0 := hs _ List.mem_cons_self
    have t0 := hb_in (lo := 2147483648) (hi := 2147484588) (x := w'.1 184 4) s0.1
    have u0 : ia_E (w.1 184 4) + 1 ≤ ia_E (w'.1 184 4) + 1 := s0.2.1.resolve_left (by decide)
    have v0 := hb_E (w.1 184 4)
    have y0 := hb_E (w'.1 184 4)
    have s1 := hs _ (List.mem_cons_of_mem _ List.mem_cons_self)
    have t1 := hb_in (lo := 2147483649) (hi := 2147483649) (x := w'.1 184 11) s1.1
    exact ⟨x, w', hC, hG', hfr, ⟨by omega, by omega, by omega, by omega, by omega⟩⟩
set_option maxRecDepth 100000 in
theorem xs_283_38bee872_8f13 {a1 : Int32} {w : cm_W} (f1 : 2 ≤ (w.1 184 11).toInt ∧ (w.1 184 11).toInt ≤ 2) (hG : sv_w sg w) : ∃ x : Int32, ∃ w' : cm_W, cm_C 2 283 [.inr (.inr (some 184)), .inl a1] w (some (.inl x), w') ∧ sv_w sg w' ∧ (∀ k i, ¬ ((k = 184 ∧ 15 ≤ i ∧ i ≤ 16)) → w'.1 k i = w.1 k i ∧ w'.2 k i = w.2 k i) ∧ ((x.toInt = 0 ∧ 0 ≤ (w'.1 184 4).toInt ∧ (w'.1 184 4).toInt ≤ 940 ∧ (w.1 184 4).toInt + 1 ≤ (w'.1 184 4).toInt + 1 ∧ (w'.1 184 11).toInt = 2)) := by
  obtain ⟨r, w', hC, hG', hF, q, hq, hr, hp, hs⟩ := wk_use (d := 2) sm_283_38bee872_ok (by decide) (as := [.inr (.inr (some 184)), .inl a1]) (w := w) ⟨rfl, sv_in_top _, trivial⟩ (fun f hf => by
    rcases List.mem_cons.mp hf with rfl | hf
    · exact ⟨(by have h9 := hG 184 4; rw [xg_efb20a0a] at h9; exact h9), .inr (Nat.le_refl _), .inl rfl⟩
    rcases List.mem_cons.mp hf with rfl | hf
    · exact ⟨(hb_mk (lo := 2147483650) (hi := 2147483650) (x := w.1 184 11) (by have := f1.1; omega) (by have := f1.2; omega)), .inl rfl, .inl rfl⟩
    rcases List.mem_cons.mp hf with rfl | hf
    · exact ⟨(sv_in_top _), .inl rfl, .inl rfl⟩
    cases hf) hG
  have hfr : ∀ k i, ¬ ((k = 184 ∧ 15 ≤ i ∧ i ≤ 16)) → w'.1 k i = w.1 k i ∧ w'.2 k i = w.2 k i := fun k i hki => hF k i (fun ⟨r, z, z1, z2, z3⟩ => by
    simp only [sm_283_38bee872, List.mem_cons, List.not_mem_nil, or_false] at z
    rcases z with rfl
    all_goals (simp only at z1 z2 z3; omega))
  simp only [sm_283_38bee872, List.mem_cons, List.not_mem_nil, or_false] at hq
  rcases hq with rfl
  · obtain ⟨x, rfl, hx⟩ := wk_int hr
    have hx := hb_in hx
    have s0 := hs _ List.mem_cons_self
    have t0 := hb_in (lo := 2147483648) (hi := 2147484588) (x := w'.1 184 4) s0.1
    have u0 : ia_E (w.1 184 4) + 1 ≤ ia_E (w'.1 184 4) + 1 := s0.2.1.resolve_left (by decide)
    have v0 := hb_E (w.1 184 4)
    have y0 := hb_E (w'.1 184 4)
    have s1 := hs _ (List.mem_cons_of_mem _ List.mem_cons_self)
    have t1 := hb_in (lo := 2147483650) (hi := 2147483650) (x := w'.1 184 11) s1.1
    exact ⟨x, w', hC, hG', hfr, ⟨by omega, by omega, by omega, by omega, by omega⟩⟩
set_option maxRecDepth 100000 in
theorem xs_283_d6d4dcad_8f13 {a1 : Int32} {w : cm_W} (f1 : 4 ≤ (w.1 184 11).toInt ∧ (w.1 184 11).toInt ≤ 4) (hG : sv_w sg w) : ∃ x : Int32, ∃ w' : cm_W, cm_C 2 283 [.inr (.inr (some 184)), .inl a1] w (some (.inl x), w') ∧ sv_w sg w' ∧ (∀ k i, ¬ ((k = 184 ∧ 15 ≤ i ∧ i ≤ 16)) → w'.1 k i = w.1 k i ∧ w'.2 k i = w.2 k i) ∧ ((x.toInt = 0 ∧ 0 ≤ (w'.1 184 4).toInt ∧ (w'.1 184 4).toInt ≤ 940 ∧ (w.1 184 4).toInt + 1 ≤ (w'.1 184 4).toInt + 1 ∧ (w'.1 184 11).toInt = 4)) := by
  obtain ⟨r, w', hC, hG', hF, q, hq, hr, hp, hs⟩ := wk_use (d := 2) sm_283_d6d4dcad_ok (by decide) (as := [.inr (.inr (some 184)), .inl a1]) (w := w) ⟨rfl, sv_in_top _, trivial⟩ (fun f hf => by
    rcases List.mem_cons.mp hf with rfl | hf
    · exact ⟨(by have h9 := hG 184 4; rw [xg_efb20a0a] at h9; exact h9), .inr (Nat.le_refl _), .inl rfl⟩
    rcases List.mem_cons.mp hf with rfl | hf
    · exact ⟨(hb_mk (lo := 2147483652) (hi := 2147483652) (x := w.1 184 11) (by have := f1.1; omega) (by have := f1.2; omega)), .inl rfl, .inl rfl⟩
    rcases List.mem_cons.mp hf with rfl | hf
    · exact ⟨(sv_in_top _), .inl rfl, .inl rfl⟩
    cases hf) hG
  have hfr : ∀ k i, ¬ ((k = 184 ∧ 15 ≤ i ∧ i ≤ 16)) → w'.1 k i = w.1 k i ∧ w'.2 k i = w.2 k i := fun k i hki => hF k i (fun ⟨r, z, z1, z2, z3⟩ => by
    simp only [sm_283_d6d4dcad, List.mem_cons, List.not_mem_nil, or_false] at z
    rcases z with rfl
    all_goals (simp only at z1 z2 z3; omega))
  simp only [sm_283_d6d4dcad, List.mem_cons, List.not_mem_nil, or_false] at hq
  rcases hq with rfl
  · obtain ⟨x, rfl, hx⟩ := wk_int hr
    have hx := hb_in hx
    have s0 := hs _ List.mem_cons_self
    have t0 := hb_in (lo := 2147483648) (hi := 2147484588) (x := w'.1 184 4) s0.1
    have u0 : ia_E (w.1 184 4) + 1 ≤ ia_E (w'.1 184 4) + 1 := s0.2.1.resolve_left (by decide)
    have v0 := hb_E (w.1 184 4)
    have y0 := hb_E (w'.1 184 4)
    have s1 := hs _ (List.mem_cons_of_mem _ List.mem_cons_self)
    have t1 := hb_in (lo := 2147483652) (hi := 2147483652) (x := w'.1 184 11) s1.1
    exact ⟨x, w', hC, hG', hfr, ⟨by omega, by omega, by omega, by omega, by omega⟩⟩
set_option maxRecDepth 100000 in
theorem xi_1ea5375c : ∀ i, i < 79 → sv_incl (2147483648, 2147483648) (sv_g sg 187 i) = true := by decide +kernel
set_option maxRecDepth 100000 in
theorem xd_26e8bff4 : decode (ia_code 150) 29 = .ok (.iload_n 1, 1) := fdd_d (by decide +kernel)
set_option maxRecDepth 100000 in
theorem xd_0635fbd4 : decode (ia_code 150) 30 = .ok (.bipush 79, 2) := fdd_d (by decide +kernel)
set_option maxRecDepth 100000 in
theorem xd_52808b46 : decode (ia_code 150) 32 = .ok (.if_icmp .ge 16, 3) := fdd_d (by decide +kernel)
set_option maxRecDepth 100000 in
theorem xd_c04bc2bb : decode (ia_code 150) 35 = .ok (.aload_n 0, 1) := fdd_d (by decide +kernel)
set_option maxRecDepth 100000 in
theorem xd_c614fea8 : decode (ia_code 150) 36 = .ok (.getfield 37, 3) := fdd_d (by decide +kernel)
set_option maxRecDepth 100000 in
theorem xf_cd4028f3 : wk_gf 150 37 184 7 (187 + 3) = true := by decide +kernel
set_option maxRecDepth 100000 in
theorem xd_a7cddad3 : decode (ia_code 150) 39 = .ok (.iload_n 1, 1) := fdd_d (by decide +kernel)
set_option maxRecDepth 100000 in
theorem xd_34af4738 : decode (ia_code 150) 40 = .ok (.iconst 0, 1) := fdd_d (by decide +kernel)
set_option maxRecDepth 100000 in
theorem xd_470013d8 : decode (ia_code 150) 41 = .ok (.iastore, 1) := fdd_d (by decide +kernel)
set_option maxRecDepth 100000 in
theorem xf_9cb75a54 : wk_ar 187 50 79 = true := by decide +kernel
set_option maxRecDepth 100000 in
theorem xd_2411bf9c : decode (ia_code 150) 42 = .ok (.iinc 1 1, 3) := fdd_d (by decide +kernel)
set_option maxRecDepth 100000 in
theorem xm_f50e82e6 : ia_maxL 150 = 2 := by decide +kernel
set_option maxRecDepth 100000 in
theorem xd_f4e954f8 : decode (ia_code 150) 45 = .ok (.goto (-16), 3) := fdd_d (by decide +kernel)
set_option maxRecDepth 100000 in
theorem xd_b3477284 : decode (ia_code 150) 60 = .ok (.aload_n 0, 1) := fdd_d (by decide +kernel)
set_option maxRecDepth 100000 in
theorem xd_04a9d10c : decode (ia_code 150) 61 = .ok (.getfield 150, 3) := fdd_d (by decide +kernel)
set_option maxRecDepth 100000 in
theorem xf_3490e2a6 : wk_gf 150 150 184 11 0 = true := by decide +kernel
set_option maxRecDepth 100000 in
theorem xd_f6beac5c : decode (ia_code 150) 64 = .ok (.ifCond .eq 39, 3) := fdd_d (by decide +kernel)
set_option maxRecDepth 100000 in
theorem xd_c5feea2a : decode (ia_code 150) 67 = .ok (.aload_n 0, 1) := fdd_d (by decide +kernel)
set_option maxRecDepth 100000 in
theorem xl_f2e3396a : ia_pl (ia_cls 150) 238 = some (1, 273, 0, 0, 1660) := by decide +kernel
set_option maxRecDepth 100000 in
theorem xn_2b3ae09e : ia_na 273 = 1 := by decide +kernel
set_option maxRecDepth 100000 in
theorem xc_a9bb15da : ia_mc 273 = 0 ∧ ia_ms 273 = 0 := ⟨by decide +kernel, by decide +kernel⟩
set_option maxRecDepth 100000 in
theorem xv_dbf204f5 : cm_rcv 273 [.inr (.inr (some 184))] = true := by decide +kernel
set_option maxRecDepth 100000 in
theorem xd_15878533 : decode (ia_code 150) 68 = .ok (.invokevirtual 238, 3) := fdd_d (by decide +kernel)
set_option maxRecDepth 100000 in
theorem xd_c2deb15f : decode (ia_code 150) 71 = .ok (.ifCond .eq 12, 3) := fdd_d (by decide +kernel)
set_option maxRecDepth 100000 in
theorem xd_7c7702df : decode (ia_code 150) 83 = .ok (.iconst (-1), 1) := fdd_d (by decide +kernel)
set_option maxRecDepth 100000 in
theorem xd_d12bbdf9 : decode (ia_code 150) 84 = .ok (.aload_n 0, 1) := fdd_d (by decide +kernel)
set_option maxRecDepth 100000 in
theorem xd_1d2e6d94 : decode (ia_code 150) 85 = .ok (.getfield 170, 3) := fdd_d (by decide +kernel)
set_option maxRecDepth 100000 in
theorem xf_d398925c : wk_gf 150 170 184 16 0 = true := by decide +kernel
set_option maxRecDepth 100000 in
theorem xd_0297e700 : decode (ia_code 150) 88 = .ok (.isub, 1) := fdd_d (by decide +kernel)
set_option maxRecDepth 100000 in
theorem xd_202d5c2f : decode (ia_code 150) 89 = .ok (.ireturn, 1) := fdd_d (by decide +kernel)
set_option maxRecDepth 100000 in
theorem xr_ef4a27ad : ia_ret 150 = some .int := by decide +kernel
set_option maxRecDepth 100000 in
theorem xd_323eb630 : decode (ia_code 150) 74 = .ok (.aload_n 0, 1) := fdd_d (by decide +kernel)
set_option maxRecDepth 100000 in
theorem xd_b9d48fc7 : decode (ia_code 150) 75 = .ok (.bipush 59, 2) := fdd_d (by decide +kernel)
set_option maxRecDepth 100000 in
theorem xl_5311e272 : ia_pl (ia_cls 150) 241 = some (1, 283, 0, 0, 1722) := by decide +kernel
set_option maxRecDepth 100000 in
theorem xn_436503f1 : ia_na 283 = 2 := by decide +kernel
set_option maxRecDepth 100000 in
theorem xc_bbf8acc6 : ia_mc 283 = 0 ∧ ia_ms 283 = 0 := ⟨by decide +kernel, by decide +kernel⟩
set_option maxRecDepth 100000 in
theorem xv_db1e3c86 : cm_rcv 283 [.inr (.inr (some 184))] = true := by decide +kernel
set_option maxRecDepth 100000 in
theorem xd_abc00eef : decode (ia_code 150) 77 = .ok (.invokevirtual 241, 3) := fdd_d (by decide +kernel)
set_option maxRecDepth 100000 in
theorem xd_a59043c9 : decode (ia_code 150) 80 = .ok (.ifCond .ne 10, 3) := fdd_d (by decide +kernel)
set_option maxRecDepth 100000 in
theorem xd_5052794d : decode (ia_code 150) 90 = .ok (.aload_n 0, 1) := fdd_d (by decide +kernel)
set_option maxRecDepth 100000 in
theorem xd_36f02871 : decode (ia_code 150) 91 = .ok (.dup, 1) := fdd_d (by decide +kernel)
set_option maxRecDepth 100000 in
theorem xd_c9f8da08 : decode (ia_code 150) 92 = .ok (.getfield 235, 3) := fdd_d (by decide +kernel)
set_option maxRecDepth 100000 in
theorem xf_7ec374f2 : wk_gf 150 235 184 19 0 = true := by decide +kernel
set_option maxRecDepth 100000 in
theorem xd_d9d09129 : decode (ia_code 150) 95 = .ok (.iconst 1, 1) := fdd_d (by decide +kernel)
set_option maxRecDepth 100000 in
theorem xd_7bd3dca8 : decode (ia_code 150) 96 = .ok (.iadd, 1) := fdd_d (by decide +kernel)
set_option maxRecDepth 100000 in
theorem xd_5bcdb3e5 : decode (ia_code 150) 97 = .ok (.putfield 235, 3) := fdd_d (by decide +kernel)
set_option maxRecDepth 100000 in
theorem xf_0c5254ac : wk_pf 150 235 184 19 0 = true := by decide +kernel
set_option maxRecDepth 100000 in
theorem xg_72cbc988 : sv_g sg 184 19 = sv_top := by decide +kernel
set_option maxRecDepth 100000 in
theorem xd_9f81a0d9 : decode (ia_code 150) 100 = .ok (.goto (-40), 3) := fdd_d (by decide +kernel)
set_option maxRecDepth 100000 in
theorem xi_ab5ba30b : ∀ i, i < 79 → i ≠ 4 → sv_incl (sv_g sg 187 i) (sv_g sg 186 i) = true := by decide +kernel
set_option maxRecDepth 100000 in
theorem xi_6b5fc946 : ∀ i, i < 301 → 79 ≤ i → sv_incl (2147483648, 2147483648) (sv_g sg 186 i) = true := by decide +kernel
set_option maxRecDepth 100000 in
theorem xd_d137f515 : decode (ia_code 150) 105 = .ok (.iload_n 1, 1) := fdd_d (by decide +kernel)
set_option maxRecDepth 100000 in
theorem xd_3d9bf043 : decode (ia_code 150) 106 = .ok (.sipush 301, 3) := fdd_d (by decide +kernel)
set_option maxRecDepth 100000 in
theorem xd_f6538f6b : decode (ia_code 150) 109 = .ok (.if_icmp .ge 31, 3) := fdd_d (by decide +kernel)
set_option maxRecDepth 100000 in
theorem xd_41c8f241 : decode (ia_code 150) 112 = .ok (.aload_n 0, 1) := fdd_d (by decide +kernel)
set_option maxRecDepth 100000 in
theorem xd_6b78c62d : decode (ia_code 150) 113 = .ok (.getfield 33, 3) := fdd_d (by decide +kernel)
set_option maxRecDepth 100000 in
theorem xf_9682d9c8 : wk_gf 150 33 184 6 (186 + 3) = true := by decide +kernel
set_option maxRecDepth 100000 in
theorem xd_26f7a90f : decode (ia_code 150) 116 = .ok (.iload_n 1, 1) := fdd_d (by decide +kernel)
set_option maxRecDepth 100000 in
theorem xd_bd8443db : decode (ia_code 150) 117 = .ok (.iload_n 1, 1) := fdd_d (by decide +kernel)
set_option maxRecDepth 100000 in
theorem xd_f1b610a6 : decode (ia_code 150) 118 = .ok (.bipush 79, 2) := fdd_d (by decide +kernel)
set_option maxRecDepth 100000 in
theorem xd_362ef30d : decode (ia_code 150) 120 = .ok (.if_icmp .ge 12, 3) := fdd_d (by decide +kernel)
set_option maxRecDepth 100000 in
theorem xd_d92fcc6b : decode (ia_code 150) 132 = .ok (.iconst 0, 1) := fdd_d (by decide +kernel)
set_option maxRecDepth 100000 in
theorem xd_7f086058 : decode (ia_code 150) 133 = .ok (.iastore, 1) := fdd_d (by decide +kernel)
set_option maxRecDepth 100000 in
theorem xd_9530a7cf : decode (ia_code 150) 134 = .ok (.iinc 1 1, 3) := fdd_d (by decide +kernel)
set_option maxRecDepth 100000 in
theorem xd_131bbe78 : decode (ia_code 150) 137 = .ok (.goto (-32), 3) := fdd_d (by decide +kernel)
set_option maxRecDepth 100000 in
theorem xd_82a5b1bd : decode (ia_code 150) 123 = .ok (.aload_n 0, 1) := fdd_d (by decide +kernel)
set_option maxRecDepth 100000 in
theorem xd_a2ff71bd : decode (ia_code 150) 124 = .ok (.getfield 37, 3) := fdd_d (by decide +kernel)
set_option maxRecDepth 100000 in
theorem xd_e59aeaf3 : decode (ia_code 150) 127 = .ok (.iload_n 1, 1) := fdd_d (by decide +kernel)
set_option maxRecDepth 100000 in
theorem xd_7af436d1 : decode (ia_code 150) 128 = .ok (.iaload, 1) := fdd_d (by decide +kernel)
set_option maxRecDepth 100000 in
theorem xd_a8e7b8a8 : decode (ia_code 150) 129 = .ok (.goto 4, 3) := fdd_d (by decide +kernel)
set_option maxRecDepth 100000 in
theorem xd_ce88f3e4 : decode (ia_code 150) 142 = .ok (.iload_n 1, 1) := fdd_d (by decide +kernel)
set_option maxRecDepth 100000 in
theorem xd_3bc0e509 : decode (ia_code 150) 143 = .ok (.bipush 16, 2) := fdd_d (by decide +kernel)
set_option maxRecDepth 100000 in
theorem xd_a9f9adf3 : decode (ia_code 150) 145 = .ok (.if_icmp .ge 24, 3) := fdd_d (by decide +kernel)
set_option maxRecDepth 100000 in
theorem xd_44c499f6 : decode (ia_code 150) 148 = .ok (.aload_n 0, 1) := fdd_d (by decide +kernel)
set_option maxRecDepth 100000 in
theorem xd_07997336 : decode (ia_code 150) 149 = .ok (.getfield 43, 3) := fdd_d (by decide +kernel)
set_option maxRecDepth 100000 in
theorem xf_89dd543d : wk_gf 150 43 184 9 (189 + 3) = true := by decide +kernel
set_option maxRecDepth 100000 in
theorem xd_4fad96c3 : decode (ia_code 150) 152 = .ok (.iload_n 1, 1) := fdd_d (by decide +kernel)
set_option maxRecDepth 100000 in
theorem xd_b3bd86ca : decode (ia_code 150) 153 = .ok (.aload_n 0, 1) := fdd_d (by decide +kernel)
set_option maxRecDepth 100000 in
theorem xd_92b99ce3 : decode (ia_code 150) 154 = .ok (.getfield 43, 3) := fdd_d (by decide +kernel)
set_option maxRecDepth 100000 in
theorem xd_bab921bd : decode (ia_code 150) 157 = .ok (.bipush 16, 2) := fdd_d (by decide +kernel)
set_option maxRecDepth 100000 in
theorem xd_39f1ecd8 : decode (ia_code 150) 159 = .ok (.iload_n 1, 1) := fdd_d (by decide +kernel)
set_option maxRecDepth 100000 in
theorem xd_90e8028f : decode (ia_code 150) 160 = .ok (.iadd, 1) := fdd_d (by decide +kernel)
set_option maxRecDepth 100000 in
theorem xd_769814da : decode (ia_code 150) 161 = .ok (.laload, 1) := fdd_d (by decide +kernel)
set_option maxRecDepth 100000 in
theorem xd_da0cb844 : decode (ia_code 150) 162 = .ok (.lastore, 1) := fdd_d (by decide +kernel)
set_option maxRecDepth 100000 in
theorem xd_6bc6d2c8 : decode (ia_code 150) 163 = .ok (.iinc 1 1, 3) := fdd_d (by decide +kernel)
set_option maxRecDepth 100000 in
theorem xd_bc26e903 : decode (ia_code 150) 166 = .ok (.goto (-24), 3) := fdd_d (by decide +kernel)
set_option maxRecDepth 100000 in
theorem xi_b54c32bf : ∀ i, i < 6 → sv_incl (sv_g sg 186 (13 + i)) (sv_g sg 186 (82 + i)) = true := by decide +kernel
set_option maxRecDepth 100000 in
theorem xh_09e22205 : ∀ i, i < 6 → sv_g sg 186 (88 + i) = sv_top := by decide +kernel
set_option maxRecDepth 100000 in
theorem xd_e07363f1 : decode (ia_code 150) 171 = .ok (.iload_n 1, 1) := fdd_d (by decide +kernel)
set_option maxRecDepth 100000 in
theorem xd_b66dc762 : decode (ia_code 150) 172 = .ok (.bipush 6, 2) := fdd_d (by decide +kernel)
set_option maxRecDepth 100000 in
theorem xd_e67df12f : decode (ia_code 150) 174 = .ok (.if_icmp .ge 45, 3) := fdd_d (by decide +kernel)
set_option maxRecDepth 100000 in
theorem xd_6adaeb56 : decode (ia_code 150) 177 = .ok (.aload_n 0, 1) := fdd_d (by decide +kernel)
set_option maxRecDepth 100000 in
theorem xd_4d403e78 : decode (ia_code 150) 178 = .ok (.getfield 33, 3) := fdd_d (by decide +kernel)
set_option maxRecDepth 100000 in
theorem xd_bfd26309 : decode (ia_code 150) 181 = .ok (.bipush 82, 2) := fdd_d (by decide +kernel)
set_option maxRecDepth 100000 in
theorem xd_eef0bbd1 : decode (ia_code 150) 183 = .ok (.iload_n 1, 1) := fdd_d (by decide +kernel)
set_option maxRecDepth 100000 in
theorem xd_0f3dc31f : decode (ia_code 150) 184 = .ok (.iadd, 1) := fdd_d (by decide +kernel)
set_option maxRecDepth 100000 in
theorem xd_64593376 : decode (ia_code 150) 185 = .ok (.aload_n 0, 1) := fdd_d (by decide +kernel)
set_option maxRecDepth 100000 in
theorem xd_877a97f3 : decode (ia_code 150) 186 = .ok (.getfield 33, 3) := fdd_d (by decide +kernel)
set_option maxRecDepth 100000 in
theorem xd_a5045857 : decode (ia_code 150) 189 = .ok (.bipush 13, 2) := fdd_d (by decide +kernel)
set_option maxRecDepth 100000 in
theorem xd_82430d1f : decode (ia_code 150) 191 = .ok (.iload_n 1, 1) := fdd_d (by decide +kernel)
set_option maxRecDepth 100000 in
theorem xd_d6a3ffc2 : decode (ia_code 150) 192 = .ok (.iadd, 1) := fdd_d (by decide +kernel)
set_option maxRecDepth 100000 in
theorem xd_166a263c : decode (ia_code 150) 193 = .ok (.iaload, 1) := fdd_d (by decide +kernel)
set_option maxRecDepth 100000 in
theorem xd_81fc0980 : decode (ia_code 150) 194 = .ok (.iastore, 1) := fdd_d (by decide +kernel)
set_option maxRecDepth 100000 in
theorem xd_e57c5651 : decode (ia_code 150) 195 = .ok (.aload_n 0, 1) := fdd_d (by decide +kernel)
set_option maxRecDepth 100000 in
theorem xd_60673164 : decode (ia_code 150) 196 = .ok (.getfield 33, 3) := fdd_d (by decide +kernel)
set_option maxRecDepth 100000 in
theorem xd_74fe5da9 : decode (ia_code 150) 199 = .ok (.bipush 88, 2) := fdd_d (by decide +kernel)
set_option maxRecDepth 100000 in
theorem xd_e486e2d5 : decode (ia_code 150) 201 = .ok (.iload_n 1, 1) := fdd_d (by decide +kernel)
set_option maxRecDepth 100000 in
theorem xd_a7492fd5 : decode (ia_code 150) 202 = .ok (.iadd, 1) := fdd_d (by decide +kernel)
set_option maxRecDepth 100000 in
theorem xd_6e73cbe1 : decode (ia_code 150) 203 = .ok (.aload_n 0, 1) := fdd_d (by decide +kernel)
set_option maxRecDepth 100000 in
theorem xd_f1a1b1d1 : decode (ia_code 150) 204 = .ok (.getfield 33, 3) := fdd_d (by decide +kernel)
set_option maxRecDepth 100000 in
theorem xd_e527fb47 : decode (ia_code 150) 207 = .ok (.bipush 19, 2) := fdd_d (by decide +kernel)
set_option maxRecDepth 100000 in
theorem xd_e43fa1f3 : decode (ia_code 150) 209 = .ok (.iload_n 1, 1) := fdd_d (by decide +kernel)
set_option maxRecDepth 100000 in
theorem xd_757fc40e : decode (ia_code 150) 210 = .ok (.iadd, 1) := fdd_d (by decide +kernel)
set_option maxRecDepth 100000 in
theorem xd_c02ef486 : decode (ia_code 150) 211 = .ok (.iaload, 1) := fdd_d (by decide +kernel)
set_option maxRecDepth 100000 in
theorem xd_b867137b : decode (ia_code 150) 212 = .ok (.iastore, 1) := fdd_d (by decide +kernel)
set_option maxRecDepth 100000 in
theorem xd_4561e34e : decode (ia_code 150) 213 = .ok (.iinc 1 1, 3) := fdd_d (by decide +kernel)
set_option maxRecDepth 100000 in
theorem xd_28ad1ecc : decode (ia_code 150) 216 = .ok (.goto (-45), 3) := fdd_d (by decide +kernel)
set_option maxRecDepth 100000 in
theorem xi_6609304b : ∀ i, i < 4 → sv_incl (sv_g sg 186 (29 + i)) (sv_g sg 186 (100 + i)) = true := by decide +kernel
set_option maxRecDepth 100000 in
theorem xd_3dbd2eda : decode (ia_code 150) 221 = .ok (.iload_n 1, 1) := fdd_d (by decide +kernel)
set_option maxRecDepth 100000 in
theorem xd_efc22957 : decode (ia_code 150) 222 = .ok (.iconst 4, 1) := fdd_d (by decide +kernel)
set_option maxRecDepth 100000 in
theorem xd_3e252cec : decode (ia_code 150) 223 = .ok (.if_icmp .ge 27, 3) := fdd_d (by decide +kernel)
set_option maxRecDepth 100000 in
theorem xd_2c674ca9 : decode (ia_code 150) 226 = .ok (.aload_n 0, 1) := fdd_d (by decide +kernel)
set_option maxRecDepth 100000 in
theorem xd_d1064ced : decode (ia_code 150) 227 = .ok (.getfield 33, 3) := fdd_d (by decide +kernel)
set_option maxRecDepth 100000 in
theorem xd_02452d7a : decode (ia_code 150) 230 = .ok (.bipush 100, 2) := fdd_d (by decide +kernel)
set_option maxRecDepth 100000 in
theorem xd_ca7d72c0 : decode (ia_code 150) 232 = .ok (.iload_n 1, 1) := fdd_d (by decide +kernel)
set_option maxRecDepth 100000 in
theorem xd_eb4d1f9d : decode (ia_code 150) 233 = .ok (.iadd, 1) := fdd_d (by decide +kernel)
set_option maxRecDepth 100000 in
theorem xd_40d4fa67 : decode (ia_code 150) 234 = .ok (.aload_n 0, 1) := fdd_d (by decide +kernel)
set_option maxRecDepth 100000 in
theorem xd_a67dcc27 : decode (ia_code 150) 235 = .ok (.getfield 33, 3) := fdd_d (by decide +kernel)
set_option maxRecDepth 100000 in
theorem xd_4dadfb49 : decode (ia_code 150) 238 = .ok (.bipush 29, 2) := fdd_d (by decide +kernel)
set_option maxRecDepth 100000 in
theorem xd_16f3965e : decode (ia_code 150) 240 = .ok (.iload_n 1, 1) := fdd_d (by decide +kernel)
set_option maxRecDepth 100000 in
theorem xd_a4a7ff55 : decode (ia_code 150) 241 = .ok (.iadd, 1) := fdd_d (by decide +kernel)
set_option maxRecDepth 100000 in
theorem xd_e2a43e69 : decode (ia_code 150) 242 = .ok (.iaload, 1) := fdd_d (by decide +kernel)
set_option maxRecDepth 100000 in
theorem xd_6c346725 : decode (ia_code 150) 243 = .ok (.iastore, 1) := fdd_d (by decide +kernel)
set_option maxRecDepth 100000 in
theorem xd_bb979649 : decode (ia_code 150) 244 = .ok (.iinc 1 1, 3) := fdd_d (by decide +kernel)
set_option maxRecDepth 100000 in
theorem xd_12fae68a : decode (ia_code 150) 247 = .ok (.goto (-26), 3) := fdd_d (by decide +kernel)
set_option maxRecDepth 100000 in
theorem xd_37369f8e : decode (ia_code 150) 0 = .ok (.aload_n 0, 1) := fdd_d (by decide +kernel)
set_option maxRecDepth 100000 in
theorem xd_01bd2402 : decode (ia_code 150) 1 = .ok (.iconst 0, 1) := fdd_d (by decide +kernel)
set_option maxRecDepth 100000 in
theorem xd_1f1b4468 : decode (ia_code 150) 2 = .ok (.putfield 1, 3) := fdd_d (by decide +kernel)
set_option maxRecDepth 100000 in
theorem xf_7e9d8d84 : wk_pf 150 1 184 0 0 = true := by decide +kernel
set_option maxRecDepth 100000 in
theorem xd_ac19d4c9 : decode (ia_code 150) 5 = .ok (.aload_n 0, 1) := fdd_d (by decide +kernel)
set_option maxRecDepth 100000 in
theorem xd_d396fbf0 : decode (ia_code 150) 6 = .ok (.sipush 900, 3) := fdd_d (by decide +kernel)
set_option maxRecDepth 100000 in
theorem xl_6bf56d51 : ia_pl (ia_cls 150) 232 = some (1, 145, 0, 0, 1642) := by decide +kernel
set_option maxRecDepth 100000 in
theorem xd_267f666a : decode (ia_code 150) 9 = .ok (.invokevirtual 232, 3) := fdd_d (by decide +kernel)
set_option maxRecDepth 100000 in
theorem xd_6fc9961a : decode (ia_code 150) 12 = .ok (.aload_n 0, 1) := fdd_d (by decide +kernel)
set_option maxRecDepth 100000 in
theorem xd_96f8a13f : decode (ia_code 150) 13 = .ok (.iconst 0, 1) := fdd_d (by decide +kernel)
set_option maxRecDepth 100000 in
theorem xd_70fd50d9 : decode (ia_code 150) 14 = .ok (.putfield 167, 3) := fdd_d (by decide +kernel)
set_option maxRecDepth 100000 in
theorem xf_85fec3ab : wk_pf 150 167 184 15 0 = true := by decide +kernel
set_option maxRecDepth 100000 in
theorem xd_f4e6dd5d : decode (ia_code 150) 17 = .ok (.aload_n 0, 1) := fdd_d (by decide +kernel)
set_option maxRecDepth 100000 in
theorem xd_16c32a7f : decode (ia_code 150) 18 = .ok (.iconst 0, 1) := fdd_d (by decide +kernel)
set_option maxRecDepth 100000 in
theorem xd_f3b89562 : decode (ia_code 150) 19 = .ok (.putfield 235, 3) := fdd_d (by decide +kernel)
set_option maxRecDepth 100000 in
theorem xd_37d73f32 : decode (ia_code 150) 22 = .ok (.aload_n 0, 1) := fdd_d (by decide +kernel)
set_option maxRecDepth 100000 in
theorem xd_e01d9802 : decode (ia_code 150) 23 = .ok (.iconst 0, 1) := fdd_d (by decide +kernel)
set_option maxRecDepth 100000 in
theorem xd_6378fe4a : decode (ia_code 150) 24 = .ok (.putfield 204, 3) := fdd_d (by decide +kernel)
set_option maxRecDepth 100000 in
theorem xf_04850f46 : wk_pf 150 204 184 20 0 = true := by decide +kernel
set_option maxRecDepth 100000 in
theorem xg_173c8443 : sv_g sg 184 20 = sv_top := by decide +kernel
set_option maxRecDepth 100000 in
theorem xd_bcbc0b02 : decode (ia_code 150) 27 = .ok (.iconst 0, 1) := fdd_d (by decide +kernel)
set_option maxRecDepth 100000 in
theorem xd_5ec757e8 : decode (ia_code 150) 28 = .ok (.istore_n 1, 1) := fdd_d (by decide +kernel)
set_option maxRecDepth 100000 in
theorem xd_6ac5fdad : decode (ia_code 150) 48 = .ok (.aload_n 0, 1) := fdd_d (by decide +kernel)
set_option maxRecDepth 100000 in
theorem xd_fc8cea91 : decode (ia_code 150) 49 = .ok (.getfield 37, 3) := fdd_d (by decide +kernel)
set_option maxRecDepth 100000 in
theorem xd_740cc2ac : decode (ia_code 150) 52 = .ok (.iconst 4, 1) := fdd_d (by decide +kernel)
set_option maxRecDepth 100000 in
theorem xd_1ba411d5 : decode (ia_code 150) 53 = .ok (.bipush 10, 2) := fdd_d (by decide +kernel)
set_option maxRecDepth 100000 in
theorem xd_42d173a3 : decode (ia_code 150) 55 = .ok (.iastore, 1) := fdd_d (by decide +kernel)
set_option maxRecDepth 100000 in
theorem xg_011871e6 : sv_g sg 187 4 = (2147483648, 2147483668) := by decide +kernel
set_option maxRecDepth 100000 in
theorem xd_0693a9d6 : decode (ia_code 150) 56 = .ok (.aload_n 0, 1) := fdd_d (by decide +kernel)
set_option maxRecDepth 100000 in
theorem xl_eee9f617 : ia_pl (ia_cls 150) 179 = some (1, 129, 0, 0, 1646) := by decide +kernel
set_option maxRecDepth 100000 in
theorem xd_14092008 : decode (ia_code 150) 57 = .ok (.invokevirtual 179, 3) := fdd_d (by decide +kernel)
set_option maxRecDepth 100000 in
theorem xd_b8e29196 : decode (ia_code 150) 103 = .ok (.iconst 0, 1) := fdd_d (by decide +kernel)
set_option maxRecDepth 100000 in
theorem xd_893d5a4c : decode (ia_code 150) 104 = .ok (.istore_n 1, 1) := fdd_d (by decide +kernel)
set_option maxRecDepth 100000 in
theorem xd_81c69d45 : decode (ia_code 150) 140 = .ok (.iconst 0, 1) := fdd_d (by decide +kernel)
set_option maxRecDepth 100000 in
theorem xd_9aa3ebcf : decode (ia_code 150) 141 = .ok (.istore_n 1, 1) := fdd_d (by decide +kernel)
set_option maxRecDepth 100000 in
theorem xd_c23b0c6c : decode (ia_code 150) 169 = .ok (.iconst 0, 1) := fdd_d (by decide +kernel)
set_option maxRecDepth 100000 in
theorem xd_2e6b38bb : decode (ia_code 150) 170 = .ok (.istore_n 1, 1) := fdd_d (by decide +kernel)
set_option maxRecDepth 100000 in
theorem xd_ec9c3dea : decode (ia_code 150) 219 = .ok (.iconst 0, 1) := fdd_d (by decide +kernel)
set_option maxRecDepth 100000 in
theorem xd_820a0fb6 : decode (ia_code 150) 220 = .ok (.istore_n 1, 1) := fdd_d (by decide +kernel)
set_option maxRecDepth 100000 in
theorem xd_f0b509a4 : decode (ia_code 150) 250 = .ok (.aload_n 0, 1) := fdd_d (by decide +kernel)
set_option maxRecDepth 100000 in
theorem xd_5583ba79 : decode (ia_code 150) 251 = .ok (.iconst 0, 1) := fdd_d (by decide +kernel)
set_option maxRecDepth 100000 in
theorem xd_01437f06 : decode (ia_code 150) 252 = .ok (.putfield 244, 3) := fdd_d (by decide +kernel)
set_option maxRecDepth 100000 in
theorem xf_e41a6343 : wk_pf 150 244 184 23 0 = true := by decide +kernel
set_option maxRecDepth 100000 in
theorem xd_6b9a42e3 : decode (ia_code 150) 255 = .ok (.aload_n 0, 1) := fdd_d (by decide +kernel)
set_option maxRecDepth 100000 in
theorem xd_540ea974 : decode (ia_code 150) 256 = .ok (.getfield 235, 3) := fdd_d (by decide +kernel)
set_option maxRecDepth 100000 in
theorem xd_1d17f86f : decode (ia_code 150) 259 = .ok (.ireturn, 1) := fdd_d (by decide +kernel)
/-- nothing but the cell d is changed -/
def jOut (d : Nat) (w1 w : cm_W) (_i : Nat) : Prop := ∀ k j, k ≠ d → w.1 k j = w1.1 k j
def jVf (w1 w : cm_W) : Prop := ∀ k j, ¬ (k = 184 ∧ j ≠ 2) → k ≠ 187 → k ≠ 189 → w.1 k j = w1.1 k j
/-- sign: it is one, or no more is read -/
theorem jsg_ok {w : cm_W} {a : Int32} (hG : sv_w sg w) : ∃ x : Int32, ∃ w' : cm_W, cm_C 3 283 [.inr (.inr (some 184)), .inl a] w (some (.inl x), w') ∧ sv_w sg w' ∧ (∀ k i, ¬ (k = 184 ∧ (i = 4 ∨ (11 ≤ i ∧ i ≤ 20))) → w'.1 k i = w.1 k i) ∧ (w.1 184 4).toInt ≤ (w'.1 184 4).toInt ∧ (x.toInt = 0 ∨ (x.toInt = 1 ∧ (w.1 184 11).toInt = 3)) := by
  have h := hG 184 11
  rw [xg_d6f571af] at h
  have h := hb_in h
  have hc : (w.1 184 11).toInt = 0 ∨ (w.1 184 11).toInt = 1 ∨ (w.1 184 11).toInt = 2 ∨ (w.1 184 11).toInt = 3 ∨ (w.1 184 11).toInt = 4 := by omega
  rcases hc with hc | hc | hc | hc | hc
  · obtain ⟨x, w', hC, hG', hF, hx⟩ := xs_283_d10de614_8f13 (a1 := a) (w := w) ⟨by omega, by omega⟩ hG
    exact ⟨x, w', cm_C_mono (by decide) hC, hG', fun k i hki => (hF k i (by omega)).1, by omega, by omega⟩
  · obtain ⟨x, w', hC, hG', hF, hx⟩ := xs_283_4b807f5b_8f13 (a1 := a) (w := w) ⟨by omega, by omega⟩ hG
    exact ⟨x, w', cm_C_mono (by decide) hC, hG', fun k i hki => (hF k i (by omega)).1, by omega, by omega⟩
  · obtain ⟨x, w', hC, hG', hF, hx⟩ := xs_283_38bee872_8f13 (a1 := a) (w := w) ⟨by omega, by omega⟩ hG
    exact ⟨x, w', cm_C_mono (by decide) hC, hG', fun k i hki => (hF k i (by omega)).1, by omega, by omega⟩
  · obtain ⟨x, w', hC, hG', hF, hx⟩ := xs_283_a233713d_8f13 (a1 := a) (w := w) ⟨by omega, by omega⟩ hG
    exact ⟨x, w', cm_C_mono (by decide) hC, hG', fun k i hki => (hF k i (by omega)).1, by omega, by omega⟩
  · obtain ⟨x, w', hC, hG', hF, hx⟩ := xs_283_d6d4dcad_8f13 (a1 := a) (w := w) ⟨by omega, by omega⟩ hG
    exact ⟨x, w', cm_C_mono (by decide) hC, hG', fun k i hki => (hF k i (by omega)).1, by omega, by omega⟩
/-- a line: its span is in bounds, and something was read -/
theorem jln_ok {w : cm_W} (h0 : (w.1 184 11).toInt ≠ 0) (h4 : 1 ≤ (w.1 187 4).toInt ∧ (w.1 187 4).toInt ≤ 20) (hG : sv_w sg w) : ∃ x : Int32, ∃ w' : cm_W, cm_C 6 273 [.inr (.inr (some 184))] w (some (.inl x), w') ∧ sv_w sg w' ∧ (∀ k i, ¬ ((k = 184 ∧ (i = 4 ∨ (11 ≤ i ∧ i ≤ 20))) ∨ k = 187 ∨ k = 189) → w'.1 k i = w.1 k i) ∧ (w.1 184 4).toInt ≤ (w'.1 184 4).toInt ∧ 1 ≤ (w'.1 187 4).toInt ∧ (w'.1 187 4).toInt ≤ 20 ∧ 0 ≤ x.toInt ∧ x.toInt ≤ 1 ∧ (x.toInt = 1 → (w'.1 184 11).toInt = 3 → (w.1 184 4).toInt + 1 ≤ (w'.1 184 4).toInt) := by
  have h := hG 184 11
  rw [xg_d6f571af] at h
  have h := hb_in h
  by_cases hc : (w.1 184 11).toInt = 4
  · obtain ⟨x, w', hC, hG', hF, hx⟩ := xs_273_ea1d0a48_f166 (w := w) ⟨by omega, by omega⟩ h4 hG
    refine ⟨x, w', cm_C_mono (by decide) hC, hG', fun k i hki => (hF k i (by omega)).1, ?_⟩
    omega
  · obtain ⟨x, w', hC, hG', hF, hx⟩ := xs_273_1a86e3ae_f166 (w := w) ⟨by omega, by omega⟩ h4 hG
    refine ⟨x, w', cm_C_mono (by decide) hC, hG', fun k i hki => (hF k i (by omega)).1, ?_⟩
    omega
theorem jva_a (w1 : cm_W) (Q : cm_O → Prop) (hk : ∀ w z, jOut 187 w1 w (79) → sv_w sg w → cm_X (cm_C 6) 150 48 [some (.inr (.inr (some 184))), some (.inl z)] [] w Q) : ∀ (n i : Nat) (z : Int32) (w : cm_W), n + i = 79 → z.toInt = (i : Int) → jOut 187 w1 w (i) → sv_w sg w → cm_X (cm_C 6) 150 29 [some (.inr (.inr (some 184))), some (.inl z)] [] w Q := by
  intro n
  induction n with
  | zero =>
    intro i z w hi hz hP hG
    refine wk_iload_n xd_26e8bff4 rfl ?_
    refine wk_bipush xd_0635fbd4 ?_
    refine wk_icmp xd_52808b46 (t := 48) rfl (fun h32_0 => ?_) (fun h32_0 => ?_)
    · have h32_0 := aw_ge_t (a := ((i : Int) : Int)) (b := (79 : Int)) hz (show (((Int8.ofInt 79).toInt32)).toInt = 79 from by decide) h32_0
      exact hk w z (by have e : i = 79 := (by omega); subst e; exact hP) hG
    · have h32_0 := aw_ge_f (a := ((i : Int) : Int)) (b := (79 : Int)) hz (show (((Int8.ofInt 79).toInt32)).toInt = 79 from by decide) h32_0
      exfalso
      omega
  | succ n ih =>
    intro i z w hi hz hP hG
    refine wk_iload_n xd_26e8bff4 rfl ?_
    refine wk_bipush xd_0635fbd4 ?_
    refine wk_icmp xd_52808b46 (t := 48) rfl (fun h32_1 => ?_) (fun h32_1 => ?_)
    · have h32_1 := aw_ge_t (a := ((i : Int) : Int)) (b := (79 : Int)) hz (show (((Int8.ofInt 79).toInt32)).toInt = 79 from by decide) h32_1
      exfalso
      omega
    · have h32_1 := aw_ge_f (a := ((i : Int) : Int)) (b := (79 : Int)) hz (show (((Int8.ofInt 79).toInt32)).toInt = 79 from by decide) h32_1
      refine wk_aload_n xd_c04bc2bb rfl ?_
      refine wk_getR xf_cd4028f3 xd_c614fea8 ?_
      refine wk_iload_n xd_a7cddad3 rfl ?_
      refine wk_iconst xd_34af4738 ?_
      refine aw_iastore (i := i) xf_9cb75a54 hz (by omega) (by omega) xd_470013d8 ?_
      have hG3_ : sv_w sg (cm_u1 w 187 i (Int32.ofInt 0)) := sv_w_u1 hG (aw_inc (xi_1ea5375c i (by omega)) (hb_mk (lo := 2147483648) (hi := 2147483648) (by decide) (by decide)))
      refine aw_iinc (a := ((i : Int) : Int)) (b := (1 : Int)) (e := ((i : Int) + 1 : Int)) xd_2411bf9c (by rw [xm_f50e82e6]; rfl) rfl rfl hz (show ((Int32.ofInt 1)).toInt = 1 from by decide) (by omega) (by omega) (by omega) (fun v4_ p4_ => ?_)
      refine wk_goto xd_f4e954f8 (t := 29) rfl ?_
      refine ih (i + 1) _ _ (by omega) (by rw [p4_]; omega) ?_ hG3_
      exact fun k j hk => (hs_u1_ne (fun z => hk z.1)).trans (hP k j hk)
theorem jva_l (w1 : cm_W) (Q : cm_O → Prop) (hk1 : ∀ x w, jVf w1 w → sv_w sg w → Q (some (.inl x), w)) (hk2 : ∀ w z, (1 ≤ (w.1 187 4).toInt ∧ (w.1 187 4).toInt ≤ 20) → jVf w1 w → sv_w sg w → cm_X (cm_C 6) 150 103 [some (.inr (.inr (some 184))), some (.inl z)] [] w Q) : ∀ (n : Nat) (z : Int32) (w : cm_W), 941 - (w.1 184 4).toInt.toNat < n → (1 ≤ (w.1 187 4).toInt ∧ (w.1 187 4).toInt ≤ 20) → jVf w1 w → sv_w sg w → cm_X (cm_C 6) 150 60 [some (.inr (.inr (some 184))), some (.inl z)] [] w Q := by
  intro n
  induction n with
  | zero =>
    intro z w hn
    omega
  | succ n ih =>
    intro z w hn h4 hF hG
    refine wk_aload_n xd_b3477284 rfl ?_
    refine wk_getI xf_3490e2a6 xd_04a9d10c ?_
    refine wk_if xd_f6beac5c (t := 103) rfl (fun h64_0 => ?_) (fun h64_0 => ?_)
    · have h64_0 := aw_eq_t (a := ((w.1 184 11).toInt : Int)) (b := (0 : Int)) rfl hb_z h64_0
      exact hk2 w z h4 hF hG
    · have h64_0 := aw_eq_f (a := ((w.1 184 11).toInt : Int)) (b := (0 : Int)) rfl hb_z h64_0
      refine wk_aload_n xd_c5feea2a rfl ?_
      obtain ⟨xl, wl, hCl, hGl, hFl, hl1, hl2, hl3, hl4, hl5, hl6⟩ := jln_ok (w := w) (by omega) h4 hG
      refine wk_call (kd := 0) (i := 238) xd_15878533 rfl (wk_cal (as := [.inr (.inr (some 184))]) (t := []) xl_f2e3396a rfl xn_2b3ae09e xc_a9bb15da rfl rfl xv_dbf204f5 rfl) hCl ?_
      refine wk_if xd_c2deb15f (t := 83) rfl (fun h71_1 => ?_) (fun h71_1 => ?_)
      · have h71_1 := aw_eq_t (a := ((xl).toInt : Int)) (b := (0 : Int)) rfl hb_z h71_1
        refine wk_iconst xd_7c7702df ?_
        refine wk_aload_n xd_d12bbdf9 rfl ?_
        refine wk_getI xf_d398925c xd_1d2e6d94 ?_
        refine wk_isub xd_0297e700 ?_
        exact wk_ireturn xd_202d5c2f xr_ef4a27ad rfl (hk1 _ _ (fun k j a1 a2 a3 => (hFl k j (by omega)).trans (hF k j a1 a2 a3)) hGl)
      · have h71_1 := aw_eq_f (a := ((xl).toInt : Int)) (b := (0 : Int)) rfl hb_z h71_1
        refine wk_aload_n xd_323eb630 rfl ?_
        refine wk_bipush xd_b9d48fc7 ?_
        obtain ⟨xg, wg, hCg, hGg, hFg, hg1, hg2⟩ := jsg_ok (w := wl) (a := ((Int8.ofInt 59).toInt32)) hGl
        refine wk_call (kd := 0) (i := 241) xd_abc00eef rfl (wk_cal (as := [.inr (.inr (some 184)), .inl ((Int8.ofInt 59).toInt32)]) (t := []) xl_5311e272 rfl xn_436503f1 xc_bbf8acc6 rfl rfl xv_db1e3c86 rfl) (cm_C_mono (by decide) hCg) ?_
        refine wk_if xd_a59043c9 (t := 90) rfl (fun h80_2 => ?_) (fun h80_2 => ?_)
        · have h80_2 := aw_ne_t (a := ((xg).toInt : Int)) (b := (0 : Int)) rfl hb_z h80_2
          refine wk_aload_n xd_5052794d rfl ?_
          refine wk_dup_r xd_36f02871 ?_
          refine wk_getI xf_7ec374f2 xd_c9f8da08 ?_
          refine wk_iconst xd_d9d09129 ?_
          refine wk_iadd xd_7bd3dca8 ?_
          refine wk_putI xf_0c5254ac (fun ci => wk_fitI ci) xd_5bcdb3e5 ?_
          have hG4_ : sv_w sg (cm_u1 wg 184 19 ((wg.1 184 19) + (Int32.ofInt 1))) := sv_w_u1 hGg (by rw [xg_72cbc988]; exact sv_in_top _)
          refine wk_goto xd_9f81a0d9 (t := 60) rfl ?_
          exact ih _ _ (by
            show 941 - ((wg.1 184 4).toInt).toNat < n
            have e1 := hGg 184 4
            rw [xg_efb20a0a] at e1
            have e1 := hb_in e1
            have e2 := hG 184 4
            rw [xg_efb20a0a] at e2
            have e2 := hb_in e2
            omega) ⟨by show 1 ≤ (wg.1 187 4).toInt; rw [hFg 187 4 (by omega)]; omega, by show (wg.1 187 4).toInt ≤ 20; rw [hFg 187 4 (by omega)]; omega⟩ (fun k j a1 a2 a3 => (hs_u1_ne (by omega)).trans (((hFg k j (by omega)).trans (hFl k j (by omega))).trans (hF k j a1 a2 a3))) hG4_
        · have h80_2 := aw_ne_f (a := ((xg).toInt : Int)) (b := (0 : Int)) rfl hb_z h80_2
          refine wk_iconst xd_7c7702df ?_
          refine wk_aload_n xd_d12bbdf9 rfl ?_
          refine wk_getI xf_d398925c xd_1d2e6d94 ?_
          refine wk_isub xd_0297e700 ?_
          exact wk_ireturn xd_202d5c2f xr_ef4a27ad rfl (hk1 _ _ (fun k j a1 a2 a3 => ((hFg k j (by omega)).trans (hFl k j (by omega))).trans (hF k j a1 a2 a3)) hGg)
def jSh (w1 w : cm_W) (i : Nat) : Prop := (∀ k j, k ≠ 186 → w.1 k j = w1.1 k j) ∧ (120 < i → (w.1 186 120).toInt = 0)
theorem jva_b (w1 : cm_W) (h4 : 1 ≤ (w1.1 187 4).toInt ∧ (w1.1 187 4).toInt ≤ 20) (Q : cm_O → Prop) (hk : ∀ w z, jSh w1 w (301) → sv_w sg w → cm_X (cm_C 6) 150 140 [some (.inr (.inr (some 184))), some (.inl z)] [] w Q) : ∀ (n i : Nat) (z : Int32) (w : cm_W), n + i = 301 → z.toInt = (i : Int) → jSh w1 w (i) → sv_w sg w → cm_X (cm_C 6) 150 105 [some (.inr (.inr (some 184))), some (.inl z)] [] w Q := by
  intro n
  induction n with
  | zero =>
    intro i z w hi hz hP hG
    refine wk_iload_n xd_d137f515 rfl ?_
    refine wk_sipush xd_3d9bf043 ?_
    refine wk_icmp xd_f6538f6b (t := 140) rfl (fun h109_0 => ?_) (fun h109_0 => ?_)
    · have h109_0 := aw_ge_t (a := ((i : Int) : Int)) (b := (301 : Int)) hz (show (((Int16.ofInt 301).toInt32)).toInt = 301 from by decide) h109_0
      exact hk w z (by have e : i = 301 := (by omega); subst e; exact hP) hG
    · have h109_0 := aw_ge_f (a := ((i : Int) : Int)) (b := (301 : Int)) hz (show (((Int16.ofInt 301).toInt32)).toInt = 301 from by decide) h109_0
      exfalso
      omega
  | succ n ih =>
    intro i z w hi hz hP hG
    refine wk_iload_n xd_d137f515 rfl ?_
    refine wk_sipush xd_3d9bf043 ?_
    refine wk_icmp xd_f6538f6b (t := 140) rfl (fun h109_1 => ?_) (fun h109_1 => ?_)
    · have h109_1 := aw_ge_t (a := ((i : Int) : Int)) (b := (301 : Int)) hz (show (((Int16.ofInt 301).toInt32)).toInt = 301 from by decide) h109_1
      exfalso
      omega
    · have h109_1 := aw_ge_f (a := ((i : Int) : Int)) (b := (301 : Int)) hz (show (((Int16.ofInt 301).toInt32)).toInt = 301 from by decide) h109_1
      refine wk_aload_n xd_41c8f241 rfl ?_
      refine wk_getR xf_9682d9c8 xd_6b78c62d ?_
      refine wk_iload_n xd_26f7a90f rfl ?_
      refine wk_iload_n xd_bd8443db rfl ?_
      refine wk_bipush xd_f1b610a6 ?_
      refine wk_icmp xd_362ef30d (t := 132) rfl (fun h120_2 => ?_) (fun h120_2 => ?_)
      · have h120_2 := aw_ge_t (a := ((i : Int) : Int)) (b := (79 : Int)) hz (show (((Int8.ofInt 79).toInt32)).toInt = 79 from by decide) h120_2
        refine wk_iconst xd_d92fcc6b ?_
        refine aw_iastore (i := i) xf_31d67ad9 hz (by omega) (by omega) xd_7f086058 ?_
        have hG4_ : sv_w sg (cm_u1 w 186 i (Int32.ofInt 0)) := sv_w_u1 hG (aw_inc (xi_6b5fc946 i (by omega) (by omega)) (hb_mk (lo := 2147483648) (hi := 2147483648) (by decide) (by decide)))
        refine aw_iinc (a := ((i : Int) : Int)) (b := (1 : Int)) (e := ((i : Int) + 1 : Int)) xd_9530a7cf (by rw [xm_f50e82e6]; rfl) rfl rfl hz (show ((Int32.ofInt 1)).toInt = 1 from by decide) (by omega) (by omega) (by omega) (fun v5_ p5_ => ?_)
        refine wk_goto xd_131bbe78 (t := 105) rfl ?_
        refine ih (i + 1) _ _ (by omega) (by rw [p5_]; omega) ?_ hG4_
        refine ⟨fun k j hk => (hs_u1_ne (fun z => hk z.1)).trans (hP.1 k j hk), fun h => ?_⟩
        by_cases e : i = 120
        · subst e
          rw [hs_u1_self]
          decide
        · rw [hs_u1_ne (by omega)]
          exact hP.2 (by omega)
      · have h120_2 := aw_ge_f (a := ((i : Int) : Int)) (b := (79 : Int)) hz (show (((Int8.ofInt 79).toInt32)).toInt = 79 from by decide) h120_2
        refine wk_aload_n xd_82a5b1bd rfl ?_
        refine wk_getR xf_cd4028f3 xd_a2ff71bd ?_
        refine wk_iload_n xd_e59aeaf3 rfl ?_
        refine aw_iaload (i := i) xf_9cb75a54 hz (by omega) (by omega) xd_7af436d1 ?_
        refine wk_goto xd_a8e7b8a8 (t := 133) rfl ?_
        refine aw_iastore (i := i) xf_31d67ad9 hz (by omega) (by omega) xd_7f086058 ?_
        have hG6_ : sv_w sg (cm_u1 w 186 i (w.1 187 i)) := sv_w_u1 hG (by
          by_cases e4 : i = 4
          · subst e4
            rw [xg_a0777398]
            have e1 := hP.1 187 4 (by decide)
            have e2 : (w.1 187 4).toInt = (w1.1 187 4).toInt := by rw [e1]
            exact hb_mk (by omega) (by omega)
          · exact aw_inc (xi_ab5ba30b i (by omega) e4) (hG 187 i))
        refine aw_iinc (a := ((i : Int) : Int)) (b := (1 : Int)) (e := ((i : Int) + 1 : Int)) xd_9530a7cf (by rw [xm_f50e82e6]; rfl) rfl rfl hz (show ((Int32.ofInt 1)).toInt = 1 from by decide) (by omega) (by omega) (by omega) (fun v7_ p7_ => ?_)
        refine wk_goto xd_131bbe78 (t := 105) rfl ?_
        refine ih (i + 1) _ _ (by omega) (by rw [p7_]; omega) ?_ hG6_
        refine ⟨fun k j hk => (hs_u1_ne (fun z => hk z.1)).trans (hP.1 k j hk), fun h => ?_⟩
        omega
theorem jva_c (w1 : cm_W) (Q : cm_O → Prop) (hk : ∀ w z, hSame w1 w (16) → sv_w sg w → cm_X (cm_C 6) 150 169 [some (.inr (.inr (some 184))), some (.inl z)] [] w Q) : ∀ (n i : Nat) (z : Int32) (w : cm_W), n + i = 16 → z.toInt = (i : Int) → hSame w1 w (i) → sv_w sg w → cm_X (cm_C 6) 150 142 [some (.inr (.inr (some 184))), some (.inl z)] [] w Q := by
  intro n
  induction n with
  | zero =>
    intro i z w hi hz hP hG
    refine wk_iload_n xd_ce88f3e4 rfl ?_
    refine wk_bipush xd_3bc0e509 ?_
    refine wk_icmp xd_a9f9adf3 (t := 169) rfl (fun h145_0 => ?_) (fun h145_0 => ?_)
    · have h145_0 := aw_ge_t (a := ((i : Int) : Int)) (b := (16 : Int)) hz (show (((Int8.ofInt 16).toInt32)).toInt = 16 from by decide) h145_0
      exact hk w z (by have e : i = 16 := (by omega); subst e; exact hP) hG
    · have h145_0 := aw_ge_f (a := ((i : Int) : Int)) (b := (16 : Int)) hz (show (((Int8.ofInt 16).toInt32)).toInt = 16 from by decide) h145_0
      exfalso
      omega
  | succ n ih =>
    intro i z w hi hz hP hG
    refine wk_iload_n xd_ce88f3e4 rfl ?_
    refine wk_bipush xd_3bc0e509 ?_
    refine wk_icmp xd_a9f9adf3 (t := 169) rfl (fun h145_1 => ?_) (fun h145_1 => ?_)
    · have h145_1 := aw_ge_t (a := ((i : Int) : Int)) (b := (16 : Int)) hz (show (((Int8.ofInt 16).toInt32)).toInt = 16 from by decide) h145_1
      exfalso
      omega
    · have h145_1 := aw_ge_f (a := ((i : Int) : Int)) (b := (16 : Int)) hz (show (((Int8.ofInt 16).toInt32)).toInt = 16 from by decide) h145_1
      refine wk_aload_n xd_44c499f6 rfl ?_
      refine wk_getR xf_89dd543d xd_07997336 ?_
      refine wk_iload_n xd_4fad96c3 rfl ?_
      refine wk_aload_n xd_b3bd86ca rfl ?_
      refine wk_getR xf_89dd543d xd_92b99ce3 ?_
      refine wk_bipush xd_bab921bd ?_
      refine wk_iload_n xd_39f1ecd8 rfl ?_
      refine aw_iadd (a := (16 : Int)) (b := ((i : Int) : Int)) (e := ((i : Int) + 16 : Int)) xd_90e8028f (show (((Int8.ofInt 16).toInt32)).toInt = 16 from by decide) hz (by omega) (by omega) (by omega) (fun v3_ p3_ => ?_)
      refine aw_laload (i := (16 + i)) xf_69b9f963 p3_ (by omega) (by omega) xd_769814da ?_
      refine aw_lastore (i := i) xf_69b9f963 hz (by omega) (by omega) xd_da0cb844 ?_
      refine aw_iinc (a := ((i : Int) : Int)) (b := (1 : Int)) (e := ((i : Int) + 1 : Int)) xd_6bc6d2c8 (by rw [xm_f50e82e6]; rfl) rfl rfl hz (show ((Int32.ofInt 1)).toInt = 1 from by decide) (by omega) (by omega) (by omega) (fun v4_ p4_ => ?_)
      refine wk_goto xd_bc26e903 (t := 142) rfl ?_
      refine ih (i + 1) _ _ (by omega) (by rw [p4_]; omega) ?_ (aw_u2G hG)
      exact fun k j => hP k j
def jHi (a b : Nat) (w1 w : cm_W) (_i : Nat) : Prop := ∀ k j, ¬ (k = 186 ∧ a ≤ j ∧ j ≤ b) → w.1 k j = w1.1 k j
theorem jva_d (w1 : cm_W) (Q : cm_O → Prop) (hk : ∀ w z, jHi 82 93 w1 w (6) → sv_w sg w → cm_X (cm_C 6) 150 219 [some (.inr (.inr (some 184))), some (.inl z)] [] w Q) : ∀ (n i : Nat) (z : Int32) (w : cm_W), n + i = 6 → z.toInt = (i : Int) → jHi 82 93 w1 w (i) → sv_w sg w → cm_X (cm_C 6) 150 171 [some (.inr (.inr (some 184))), some (.inl z)] [] w Q := by
  intro n
  induction n with
  | zero =>
    intro i z w hi hz hP hG
    refine wk_iload_n xd_e07363f1 rfl ?_
    refine wk_bipush xd_b66dc762 ?_
    refine wk_icmp xd_e67df12f (t := 219) rfl (fun h174_0 => ?_) (fun h174_0 => ?_)
    · have h174_0 := aw_ge_t (a := ((i : Int) : Int)) (b := (6 : Int)) hz (show (((Int8.ofInt 6).toInt32)).toInt = 6 from by decide) h174_0
      exact hk w z (by have e : i = 6 := (by omega); subst e; exact hP) hG
    · have h174_0 := aw_ge_f (a := ((i : Int) : Int)) (b := (6 : Int)) hz (show (((Int8.ofInt 6).toInt32)).toInt = 6 from by decide) h174_0
      exfalso
      omega
  | succ n ih =>
    intro i z w hi hz hP hG
    refine wk_iload_n xd_e07363f1 rfl ?_
    refine wk_bipush xd_b66dc762 ?_
    refine wk_icmp xd_e67df12f (t := 219) rfl (fun h174_1 => ?_) (fun h174_1 => ?_)
    · have h174_1 := aw_ge_t (a := ((i : Int) : Int)) (b := (6 : Int)) hz (show (((Int8.ofInt 6).toInt32)).toInt = 6 from by decide) h174_1
      exfalso
      omega
    · have h174_1 := aw_ge_f (a := ((i : Int) : Int)) (b := (6 : Int)) hz (show (((Int8.ofInt 6).toInt32)).toInt = 6 from by decide) h174_1
      refine wk_aload_n xd_6adaeb56 rfl ?_
      refine wk_getR xf_9682d9c8 xd_4d403e78 ?_
      refine wk_bipush xd_bfd26309 ?_
      refine wk_iload_n xd_eef0bbd1 rfl ?_
      refine aw_iadd (a := (82 : Int)) (b := ((i : Int) : Int)) (e := ((i : Int) + 82 : Int)) xd_0f3dc31f (show (((Int8.ofInt 82).toInt32)).toInt = 82 from by decide) hz (by omega) (by omega) (by omega) (fun v3_ p3_ => ?_)
      refine wk_aload_n xd_64593376 rfl ?_
      refine wk_getR xf_9682d9c8 xd_877a97f3 ?_
      refine wk_bipush xd_a5045857 ?_
      refine wk_iload_n xd_82430d1f rfl ?_
      refine aw_iadd (a := (13 : Int)) (b := ((i : Int) : Int)) (e := ((i : Int) + 13 : Int)) xd_d6a3ffc2 (show (((Int8.ofInt 13).toInt32)).toInt = 13 from by decide) hz (by omega) (by omega) (by omega) (fun v4_ p4_ => ?_)
      refine aw_iaload (i := (13 + i)) xf_31d67ad9 p4_ (by omega) (by omega) xd_166a263c ?_
      refine aw_iastore (i := (82 + i)) xf_31d67ad9 p3_ (by omega) (by omega) xd_81fc0980 ?_
      have hG5_ : sv_w sg (cm_u1 w 186 (82 + i) (w.1 186 (13 + i))) := sv_w_u1 hG (aw_inc (xi_b54c32bf i (by omega)) (hG 186 (13 + i)))
      refine wk_aload_n xd_e57c5651 rfl ?_
      refine wk_getR xf_9682d9c8 xd_60673164 ?_
      refine wk_bipush xd_74fe5da9 ?_
      refine wk_iload_n xd_e486e2d5 rfl ?_
      refine aw_iadd (a := (88 : Int)) (b := ((i : Int) : Int)) (e := ((i : Int) + 88 : Int)) xd_a7492fd5 (show (((Int8.ofInt 88).toInt32)).toInt = 88 from by decide) hz (by omega) (by omega) (by omega) (fun v6_ p6_ => ?_)
      refine wk_aload_n xd_6e73cbe1 rfl ?_
      refine wk_getR xf_9682d9c8 xd_f1a1b1d1 ?_
      refine wk_bipush xd_e527fb47 ?_
      refine wk_iload_n xd_e43fa1f3 rfl ?_
      refine aw_iadd (a := (19 : Int)) (b := ((i : Int) : Int)) (e := ((i : Int) + 19 : Int)) xd_757fc40e (show (((Int8.ofInt 19).toInt32)).toInt = 19 from by decide) hz (by omega) (by omega) (by omega) (fun v7_ p7_ => ?_)
      refine aw_iaload (i := (19 + i)) xf_31d67ad9 p7_ (by omega) (by omega) xd_c02ef486 ?_
      refine aw_iastore (i := (88 + i)) xf_31d67ad9 p6_ (by omega) (by omega) xd_b867137b ?_
      have hG8_ : sv_w sg (cm_u1 (cm_u1 w 186 (82 + i) (w.1 186 (13 + i))) 186 (88 + i) ((cm_u1 w 186 (82 + i) (w.1 186 (13 + i))).1 186 (19 + i))) := sv_w_u1 hG5_ (by rw [xh_09e22205 i (by omega)]; exact sv_in_top _)
      refine aw_iinc (a := ((i : Int) : Int)) (b := (1 : Int)) (e := ((i : Int) + 1 : Int)) xd_4561e34e (by rw [xm_f50e82e6]; rfl) rfl rfl hz (show ((Int32.ofInt 1)).toInt = 1 from by decide) (by omega) (by omega) (by omega) (fun v9_ p9_ => ?_)
      refine wk_goto xd_28ad1ecc (t := 171) rfl ?_
      refine ih (i + 1) _ _ (by omega) (by rw [p9_]; omega) ?_ hG8_
      exact fun k j hk => ((hs_u1_ne (by omega)).trans (hs_u1_ne (by omega))).trans (hP k j hk)
theorem jva_e (w1 : cm_W) (Q : cm_O → Prop) (hk : ∀ w z, jHi 100 103 w1 w (4) → sv_w sg w → cm_X (cm_C 6) 150 250 [some (.inr (.inr (some 184))), some (.inl z)] [] w Q) : ∀ (n i : Nat) (z : Int32) (w : cm_W), n + i = 4 → z.toInt = (i : Int) → jHi 100 103 w1 w (i) → sv_w sg w → cm_X (cm_C 6) 150 221 [some (.inr (.inr (some 184))), some (.inl z)] [] w Q := by
  intro n
  induction n with
  | zero =>
    intro i z w hi hz hP hG
    refine wk_iload_n xd_3dbd2eda rfl ?_
    refine wk_iconst xd_efc22957 ?_
    refine wk_icmp xd_3e252cec (t := 250) rfl (fun h223_0 => ?_) (fun h223_0 => ?_)
    · have h223_0 := aw_ge_t (a := ((i : Int) : Int)) (b := (4 : Int)) hz (show ((Int32.ofInt 4)).toInt = 4 from by decide) h223_0
      exact hk w z (by have e : i = 4 := (by omega); subst e; exact hP) hG
    · have h223_0 := aw_ge_f (a := ((i : Int) : Int)) (b := (4 : Int)) hz (show ((Int32.ofInt 4)).toInt = 4 from by decide) h223_0
      exfalso
      omega
  | succ n ih =>
    intro i z w hi hz hP hG
    refine wk_iload_n xd_3dbd2eda rfl ?_
    refine wk_iconst xd_efc22957 ?_
    refine wk_icmp xd_3e252cec (t := 250) rfl (fun h223_1 => ?_) (fun h223_1 => ?_)
    · have h223_1 := aw_ge_t (a := ((i : Int) : Int)) (b := (4 : Int)) hz (show ((Int32.ofInt 4)).toInt = 4 from by decide) h223_1
      exfalso
      omega
    · have h223_1 := aw_ge_f (a := ((i : Int) : Int)) (b := (4 : Int)) hz (show ((Int32.ofInt 4)).toInt = 4 from by decide) h223_1
      refine wk_aload_n xd_2c674ca9 rfl ?_
      refine wk_getR xf_9682d9c8 xd_d1064ced ?_
      refine wk_bipush xd_02452d7a ?_
      refine wk_iload_n xd_ca7d72c0 rfl ?_
      refine aw_iadd (a := (100 : Int)) (b := ((i : Int) : Int)) (e := ((i : Int) + 100 : Int)) xd_eb4d1f9d (show (((Int8.ofInt 100).toInt32)).toInt = 100 from by decide) hz (by omega) (by omega) (by omega) (fun v3_ p3_ => ?_)
      refine wk_aload_n xd_40d4fa67 rfl ?_
      refine wk_getR xf_9682d9c8 xd_a67dcc27 ?_
      refine wk_bipush xd_4dadfb49 ?_
      refine wk_iload_n xd_16f3965e rfl ?_
      refine aw_iadd (a := (29 : Int)) (b := ((i : Int) : Int)) (e := ((i : Int) + 29 : Int)) xd_a4a7ff55 (show (((Int8.ofInt 29).toInt32)).toInt = 29 from by decide) hz (by omega) (by omega) (by omega) (fun v4_ p4_ => ?_)
      refine aw_iaload (i := (29 + i)) xf_31d67ad9 p4_ (by omega) (by omega) xd_e2a43e69 ?_
      refine aw_iastore (i := (100 + i)) xf_31d67ad9 p3_ (by omega) (by omega) xd_6c346725 ?_
      have hG5_ : sv_w sg (cm_u1 w 186 (100 + i) (w.1 186 (29 + i))) := sv_w_u1 hG (aw_inc (xi_6609304b i (by omega)) (hG 186 (29 + i)))
      refine aw_iinc (a := ((i : Int) : Int)) (b := (1 : Int)) (e := ((i : Int) + 1 : Int)) xd_bb979649 (by rw [xm_f50e82e6]; rfl) rfl rfl hz (show ((Int32.ofInt 1)).toInt = 1 from by decide) (by omega) (by omega) (by omega) (fun v6_ p6_ => ?_)
      refine wk_goto xd_12fae68a (t := 221) rfl ?_
      refine ih (i + 1) _ _ (by omega) (by rw [p6_]; omega) ?_ hG5_
      exact fun k j hk => (hs_u1_ne (by omega)).trans (hP k j hk)
/-- valley of the reference ends -/
theorem jva_ok {w : cm_W} (hP : hPs w) (hG : sv_w sg w) : ∃ x w', cm_C 7 150 [.inr (.inr (some 184))] w (some (.inl x), w') ∧ sv_w sg w' ∧ hPs w' ∧ (∀ k i, k ≠ 184 → k ≠ 186 → k ≠ 187 → k ≠ 189 → w'.1 k i = w.1 k i) ∧ (w'.1 184 2).toInt = 0 := by
  have h : ∃ o, cm_C (6 + 1) 150 [.inr (.inr (some 184))] w o ∧ (fun o : cm_O => ∃ x w', o = (some (.inl x), w') ∧ sv_w sg w' ∧ hPs w' ∧ (∀ k i, k ≠ 184 → k ≠ 186 → k ≠ 187 → k ≠ 189 → w'.1 k i = w.1 k i) ∧ (w'.1 184 2).toInt = 0) o := by
    refine wk_entry (by rw [xm_f50e82e6]; exact Nat.le_of_ble_eq_true rfl) ?_
    rw [show cm_ent 150 [.inr (.inr (some 184))] = [some (.inr (.inr (some 184))), none] from by unfold cm_ent; rw [xm_f50e82e6]; rfl]
    refine wk_aload_n xd_37369f8e rfl ?_
    refine wk_iconst xd_01bd2402 ?_
    refine wk_putI xf_7e9d8d84 (fun ci => wk_fitI ci) xd_1f1b4468 ?_
    have hG1_ : sv_w sg (cm_u1 w 184 0 (Int32.ofInt 0)) := sv_w_u1 hG (by rw [xg_59f145a5]; exact hb_mk (by rw [(show ((Int32.ofInt 0)).toInt = 0 from by decide)]; omega) (by rw [(show ((Int32.ofInt 0)).toInt = 0 from by decide)]; omega))
    refine wk_aload_n xd_ac19d4c9 rfl ?_
    refine wk_sipush xd_d396fbf0 ?_
    refine wk_call (kd := 0) (i := 232) xd_267f666a rfl (wk_cal (as := [.inr (.inr (some 184)), .inl ((Int16.ofInt 900).toInt32)]) (t := []) xl_6bf56d51 rfl xn_8a0f2cb7 xc_11bee548 rfl rfl xv_8b88ab9c rfl) (cm_C_mono (by decide) (htk_ok (cm_u1 w 184 0 (Int32.ofInt 0)) ((Int16.ofInt 900).toInt32))) ?_
    refine wk_aload_n xd_6fc9961a rfl ?_
    refine wk_iconst xd_96f8a13f ?_
    refine wk_putI xf_85fec3ab (fun ci => wk_fitI ci) xd_70fd50d9 ?_
    have hG2_ : sv_w sg (cm_u1 (htk (cm_u1 w 184 0 (Int32.ofInt 0)) ((Int16.ofInt 900).toInt32)) 184 15 (Int32.ofInt 0)) := sv_w_u1 (htk_G (by decide) (by decide) hG1_) (by rw [xg_68f72906]; exact sv_in_top _)
    refine wk_aload_n xd_f4e6dd5d rfl ?_
    refine wk_iconst xd_16c32a7f ?_
    refine wk_putI xf_0c5254ac (fun ci => wk_fitI ci) xd_f3b89562 ?_
    have hG3_ : sv_w sg (cm_u1 (cm_u1 (htk (cm_u1 w 184 0 (Int32.ofInt 0)) ((Int16.ofInt 900).toInt32)) 184 15 (Int32.ofInt 0)) 184 19 (Int32.ofInt 0)) := sv_w_u1 hG2_ (by rw [xg_72cbc988]; exact sv_in_top _)
    refine wk_aload_n xd_37d73f32 rfl ?_
    refine wk_iconst xd_e01d9802 ?_
    refine wk_putI xf_04850f46 (fun ci => wk_fitI ci) xd_6378fe4a ?_
    have hG4_ : sv_w sg (cm_u1 (cm_u1 (cm_u1 (htk (cm_u1 w 184 0 (Int32.ofInt 0)) ((Int16.ofInt 900).toInt32)) 184 15 (Int32.ofInt 0)) 184 19 (Int32.ofInt 0)) 184 20 (Int32.ofInt 0)) := sv_w_u1 hG3_ (by rw [xg_173c8443]; exact sv_in_top _)
    refine wk_iconst xd_bcbc0b02 ?_
    refine wk_istore_n xd_5ec757e8 (by rw [xm_f50e82e6]; rfl) rfl ?_
    have h2z : ((cm_u1 (cm_u1 (cm_u1 (htk (cm_u1 w 184 0 (Int32.ofInt 0)) ((Int16.ofInt 900).toInt32)) 184 15 (Int32.ofInt 0)) 184 19 (Int32.ofInt 0)) 184 20 (Int32.ofInt 0)).1 184 2).toInt = 0 := by
      show (Int32.ofInt 0).toInt = 0
      decide
    have hfr : ∀ k i, k ≠ 184 → (cm_u1 (cm_u1 (cm_u1 (htk (cm_u1 w 184 0 (Int32.ofInt 0)) ((Int16.ofInt 900).toInt32)) 184 15 (Int32.ofInt 0)) 184 19 (Int32.ofInt 0)) 184 20 (Int32.ofInt 0)).1 k i = w.1 k i := fun k i x1 => by
      unfold htk
      rw [hs_u1_ne (by omega), hs_u1_ne (by omega), hs_u1_ne (by omega), hs_u1_ne (by omega), hs_u1_ne (by omega), hs_u1_ne (by omega), hs_u1_ne (by omega), hs_u1_ne (by omega)]
    refine jva_a (cm_u1 (cm_u1 (cm_u1 (htk (cm_u1 w 184 0 (Int32.ofInt 0)) ((Int16.ofInt 900).toInt32)) 184 15 (Int32.ofInt 0)) 184 19 (Int32.ofInt 0)) 184 20 (Int32.ofInt 0)) _ (fun w2 z hP2 hG2 => ?_) 79 0 _ (cm_u1 (cm_u1 (cm_u1 (htk (cm_u1 w 184 0 (Int32.ofInt 0)) ((Int16.ofInt 900).toInt32)) 184 15 (Int32.ofInt 0)) 184 19 (Int32.ofInt 0)) 184 20 (Int32.ofInt 0)) (by omega) (by decide) (fun _ _ _ => rfl) hG4_
    refine wk_aload_n xd_6ac5fdad rfl ?_
    refine wk_getR xf_cd4028f3 xd_fc8cea91 ?_
    refine wk_iconst xd_740cc2ac ?_
    refine wk_bipush xd_1ba411d5 ?_
    refine aw_iastore (i := 4) xf_9cb75a54 (show ((Int32.ofInt 4)).toInt = 4 from by decide) (by omega) (by omega) xd_42d173a3 ?_
    have hG1_ : sv_w sg (cm_u1 w2 187 4 ((Int8.ofInt 10).toInt32)) := sv_w_u1 hG2 (by rw [xg_011871e6]; exact hb_mk (by rw [(show (((Int8.ofInt 10).toInt32)).toInt = 10 from by decide)]; omega) (by rw [(show (((Int8.ofInt 10).toInt32)).toInt = 10 from by decide)]; omega))
    refine wk_aload_n xd_0693a9d6 rfl ?_
    obtain ⟨w3, hC3, hG3, hF3, hx3⟩ := xs_129_f2ad130c (w := (cm_u1 w2 187 4 ((Int8.ofInt 10).toInt32))) hG1_
    refine wk_call (kd := 0) (i := 179) xd_14092008 rfl (wk_cal (as := [.inr (.inr (some 184))]) (t := []) xl_eee9f617 rfl xn_00af7311 xc_b2cf5bb1 rfl rfl xv_e7aa8f3d rfl) (cm_C_mono (by decide) hC3) ?_
    have h43 : 1 ≤ (w3.1 187 4).toInt ∧ (w3.1 187 4).toInt ≤ 20 := by
      rw [(hF3 187 4 (by omega)).1]
      show 1 ≤ ((Int8.ofInt 10).toInt32).toInt ∧ ((Int8.ofInt 10).toInt32).toInt ≤ 20
      decide
    have h2 : (w3.1 184 2).toInt = 0 := by
      rw [(hF3 184 2 (by omega)).1, hs_u1_ne (by omega), hP2 184 2 (by decide)]
      exact h2z
    have hfr3 : ∀ k i, k ≠ 184 → k ≠ 187 → w3.1 k i = w.1 k i := fun k i x1 x2 => by
      rw [(hF3 k i (by omega)).1, hs_u1_ne (by omega), hP2 k i x2]
      exact hfr k i x1
    refine jva_l w3 _ (fun x w4 hF4 hG4 => ⟨x, w4, rfl, hG4, hPs_fr (fun i => (hF4 186 i (by omega) (by decide) (by decide)).trans (hfr3 186 i (by decide) (by decide))) hP, fun k i x1 x2 x3 x4 => (hF4 k i (by omega) x3 x4).trans (hfr3 k i x1 x3), by rw [hF4 184 2 (by omega) (by decide) (by decide)]; exact h2⟩) (fun w4 z4 h44 hF4 hG4 => ?_) 2000 _ w3 (by omega) h43 (fun _ _ _ _ _ => rfl) hG3
    refine wk_iconst xd_b8e29196 ?_
    refine wk_istore_n xd_893d5a4c (by rw [xm_f50e82e6]; rfl) rfl ?_
    refine jva_b w4 h44 _ (fun w5 z5 hP5 hG5 => ?_) 301 0 _ w4 (by omega) (by decide) ⟨fun _ _ _ => rfl, fun h => absurd h (by omega)⟩ hG4
    refine wk_iconst xd_81c69d45 ?_
    refine wk_istore_n xd_9aa3ebcf (by rw [xm_f50e82e6]; rfl) rfl ?_
    refine jva_c w5 _ (fun w6 z6 hP6 hG6 => ?_) 16 0 _ w5 (by omega) (by decide) (fun _ _ => rfl) hG5
    refine wk_iconst xd_c23b0c6c ?_
    refine wk_istore_n xd_2e6b38bb (by rw [xm_f50e82e6]; rfl) rfl ?_
    refine jva_d w6 _ (fun w7 z7 hP7 hG7 => ?_) 6 0 _ w6 (by omega) (by decide) (fun _ _ _ => rfl) hG6
    refine wk_iconst xd_ec9c3dea ?_
    refine wk_istore_n xd_820a0fb6 (by rw [xm_f50e82e6]; rfl) rfl ?_
    refine jva_e w7 _ (fun w8 z8 hP8 hG8 => ?_) 4 0 _ w7 (by omega) (by decide) (fun _ _ _ => rfl) hG7
    refine wk_aload_n xd_f0b509a4 rfl ?_
    refine wk_iconst xd_5583ba79 ?_
    refine wk_putI xf_e41a6343 (fun ci => wk_fitI ci) xd_01437f06 ?_
    have hG1_ : sv_w sg (cm_u1 w8 184 23 (Int32.ofInt 0)) := sv_w_u1 hG8 (by rw [xg_14fa25fd]; exact hb_mk (by rw [(show ((Int32.ofInt 0)).toInt = 0 from by decide)]; omega) (by rw [(show ((Int32.ofInt 0)).toInt = 0 from by decide)]; omega))
    refine wk_aload_n xd_6b9a42e3 rfl ?_
    refine wk_getI xf_7ec374f2 xd_540ea974 ?_
    refine wk_ireturn xd_1d17f86f xr_ef4a27ad rfl ⟨_, _, rfl, hG1_, ⟨0, ?_, by omega, fun _ => 0, rfl, fun i _ => Nat.zero_le i, fun i hi => absurd hi (Nat.not_lt_zero i)⟩, fun k i x1 x2 x3 x4 => ?_, ?_⟩
    · show (((cm_u1 w8 184 23 (Int32.ofInt 0)).1 186 120).toInt) = 0
      rw [hs_u1_ne (by omega), hP8 186 120 (by omega), hP7 186 120 (by omega), hP6 186 120]
      exact hP5.2 (by omega)
    · rw [hs_u1_ne (by omega), hP8 k i (by omega), hP7 k i (by omega), hP6 k i, hP5.1 k i x2, hF4 k i (by omega) x3 x4]
      exact hfr3 k i x1 x3
    · rw [hs_u1_ne (by omega), hP8 184 2 (by omega), hP7 184 2 (by omega), hP6 184 2, hP5.1 184 2 (by decide), hF4 184 2 (by omega) (by decide) (by decide)]
      exact h2
  obtain ⟨o, hC, x, w', rfl, a⟩ := h
  exact ⟨x, w', hC, a⟩

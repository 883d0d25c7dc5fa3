set_option maxRecDepth 100000 in
theorem xs_72_4f3594ea {w : cm_W} (hG : sv_w sg w) : ∃ w' : cm_W, cm_C 1 72 [.inr (.inr (some 145)), .inr (.inr (some 33))] w (none, w') ∧ sv_w sg w' ∧ (∀ k i, ¬ ((k = 145 ∧ 1 ≤ i ∧ i ≤ 3) ∨ (k = 146 ∧ 0 ≤ i ∧ i ≤ 15) ∨ (k = 147 ∧ 0 ≤ i ∧ i ≤ 15) ∨ (k = 148 ∧ 0 ≤ i ∧ i ≤ 15) ∨ (k = 149 ∧ 0 ≤ i ∧ i ≤ 15) ∨ (k = 150 ∧ 0 ≤ i ∧ i ≤ 15) ∨ (k = 151 ∧ 0 ≤ i ∧ i ≤ 15)) → w'.1 k i = w.1 k i ∧ w'.2 k i = w.2 k i) ∧ ((True)) := by
  obtain ⟨r, w', hC, hG', hF, q, hq, hr, hp, hs⟩ := wk_use (d := 1) sm_72_4f3594ea_ok (by decide) (as := [.inr (.inr (some 145)), .inr (.inr (some 33))]) (w := w) ⟨rfl, rfl, trivial⟩ (fun f hf => by
    cases hf) hG
  have hfr : ∀ k i, ¬ ((k = 145 ∧ 1 ≤ i ∧ i ≤ 3) ∨ (k = 146 ∧ 0 ≤ i ∧ i ≤ 15) ∨ (k = 147 ∧ 0 ≤ i ∧ i ≤ 15) ∨ (k = 148 ∧ 0 ≤ i ∧ i ≤ 15) ∨ (k = 149 ∧ 0 ≤ i ∧ i ≤ 15) ∨ (k = 150 ∧ 0 ≤ i ∧ i ≤ 15) ∨ (k = 151 ∧ 0 ≤ i ∧ i ≤ 15)) → w'.1 k i = w.1 k i ∧ w'.2 k i = w.2 k i := fun k i hki => hF k i (fun ⟨r, z, z1, z2, z3⟩ => by
    simp only [sm_72_4f3594ea, List.mem_cons, List.not_mem_nil, or_false] at z
    rcases z with rfl | rfl | rfl | rfl | rfl | rfl | rfl
    all_goals (simp only at z1 z2 z3; omega))
  simp only [sm_72_4f3594ea, List.mem_cons, List.not_mem_nil, or_false] at hq
  rcases hq with rfl
  · obtain rfl : r = none := by
      match r, hr with
      | none, _ => rfl
    exact ⟨w', hC, hG', hfr, (trivial)⟩
set_option maxRecDepth 100000 in
theorem xs_65_73d11f74 {w : cm_W} (hG : sv_w sg w) : ∃ w' : cm_W, cm_C 1 65 [.inr (.inr (some 152)), .inr (.inr (some 106))] w (none, w') ∧ sv_w sg w' ∧ (∀ k i, ¬ ((k = 152 ∧ 0 ≤ i ∧ i ≤ 1) ∨ (k = 153 ∧ 0 ≤ i ∧ i ≤ 47) ∨ (k = 154 ∧ 0 ≤ i ∧ i ≤ 47) ∨ (k = 155 ∧ 0 ≤ i ∧ i ≤ 47)) → w'.1 k i = w.1 k i ∧ w'.2 k i = w.2 k i) ∧ ((True)) := by
  obtain ⟨r, w', hC, hG', hF, q, hq, hr, hp, hs⟩ := wk_use (d := 1) sm_65_73d11f74_ok (by decide) (as := [.inr (.inr (some 152)), .inr (.inr (some 106))]) (w := w) ⟨rfl, rfl, trivial⟩ (fun f hf => by
    cases hf) hG
  have hfr : ∀ k i, ¬ ((k = 152 ∧ 0 ≤ i ∧ i ≤ 1) ∨ (k = 153 ∧ 0 ≤ i ∧ i ≤ 47) ∨ (k = 154 ∧ 0 ≤ i ∧ i ≤ 47) ∨ (k = 155 ∧ 0 ≤ i ∧ i ≤ 47)) → w'.1 k i = w.1 k i ∧ w'.2 k i = w.2 k i := fun k i hki => hF k i (fun ⟨r, z, z1, z2, z3⟩ => by
    simp only [sm_65_73d11f74, List.mem_cons, List.not_mem_nil, or_false] at z
    rcases z with rfl | rfl | rfl | rfl
    all_goals (simp only at z1 z2 z3; omega))
  simp only [sm_65_73d11f74, List.mem_cons, List.not_mem_nil, or_false] at hq
  rcases hq with rfl
  · obtain rfl : r = none := by
      match r, hr with
      | none, _ => rfl
    exact ⟨w', hC, hG', hfr, (trivial)⟩
set_option maxRecDepth 100000 in
theorem xs_72_006d521e {w : cm_W} (hG : sv_w sg w) : ∃ w' : cm_W, cm_C 1 72 [.inr (.inr (some 33)), .inr (.inr (some 145))] w (none, w') ∧ sv_w sg w' ∧ (∀ k i, ¬ ((k = 33 ∧ 1 ≤ i ∧ i ≤ 3) ∨ (k = 34 ∧ 0 ≤ i ∧ i ≤ 15) ∨ (k = 35 ∧ 0 ≤ i ∧ i ≤ 15) ∨ (k = 36 ∧ 0 ≤ i ∧ i ≤ 15) ∨ (k = 37 ∧ 0 ≤ i ∧ i ≤ 15) ∨ (k = 38 ∧ 0 ≤ i ∧ i ≤ 15) ∨ (k = 39 ∧ 0 ≤ i ∧ i ≤ 15)) → w'.1 k i = w.1 k i ∧ w'.2 k i = w.2 k i) ∧ ((True)) := by
  obtain ⟨r, w', hC, hG', hF, q, hq, hr, hp, hs⟩ := wk_use (d := 1) sm_72_006d521e_ok (by decide) (as := [.inr (.inr (some 33)), .inr (.inr (some 145))]) (w := w) ⟨rfl, rfl, trivial⟩ (fun f hf => by
    cases hf) hG
  have hfr : ∀ k i, ¬ ((k = 33 ∧ 1 ≤ i ∧ i ≤ 3) ∨ (k = 34 ∧ 0 ≤ i ∧ i ≤ 15) ∨ (k = 35 ∧ 0 ≤ i ∧ i ≤ 15) ∨ (k = 36 ∧ 0 ≤ i ∧ i ≤ 15) ∨ (k = 37 ∧ 0 ≤ i ∧ i ≤ 15) ∨ (k = 38 ∧ 0 ≤ i ∧ i ≤ 15) ∨ (k = 39 ∧ 0 ≤ i ∧ i ≤ 15)) → w'.1 k i = w.1 k i ∧ w'.2 k i = w.2 k i := fun k i hki => hF k i (fun ⟨r, z, z1, z2, z3⟩ => by
    simp only [sm_72_006d521e, List.mem_cons, List.not_mem_nil, or_false] at z
    rcases z with rfl | rfl | rfl | rfl | rfl | rfl | rfl
    all_goals (simp only at z1 z2 z3; omega))
  simp only [sm_72_006d521e, List.mem_cons, List.not_mem_nil, or_false] at hq
  rcases hq with rfl
  · obtain rfl : r = none := by
      match r, hr with
      | none, _ => rfl
    exact ⟨w', hC, hG', hfr, (trivial)⟩
set_option maxRecDepth 100000 in
theorem xs_65_b3d4410d {w : cm_W} (hG : sv_w sg w) : ∃ w' : cm_W, cm_C 1 65 [.inr (.inr (some 106)), .inr (.inr (some 152))] w (none, w') ∧ sv_w sg w' ∧ (∀ k i, ¬ ((k = 106 ∧ 0 ≤ i ∧ i ≤ 1) ∨ (k = 107 ∧ 0 ≤ i ∧ i ≤ 47) ∨ (k = 108 ∧ 0 ≤ i ∧ i ≤ 47) ∨ (k = 109 ∧ 0 ≤ i ∧ i ≤ 47)) → w'.1 k i = w.1 k i ∧ w'.2 k i = w.2 k i) ∧ ((True)) := by
  obtain ⟨r, w', hC, hG', hF, q, hq, hr, hp, hs⟩ := wk_use (d := 1) sm_65_b3d4410d_ok (by decide) (as := [.inr (.inr (some 106)), .inr (.inr (some 152))]) (w := w) ⟨rfl, rfl, trivial⟩ (fun f hf => by
    cases hf) hG
  have hfr : ∀ k i, ¬ ((k = 106 ∧ 0 ≤ i ∧ i ≤ 1) ∨ (k = 107 ∧ 0 ≤ i ∧ i ≤ 47) ∨ (k = 108 ∧ 0 ≤ i ∧ i ≤ 47) ∨ (k = 109 ∧ 0 ≤ i ∧ i ≤ 47)) → w'.1 k i = w.1 k i ∧ w'.2 k i = w.2 k i := fun k i hki => hF k i (fun ⟨r, z, z1, z2, z3⟩ => by
    simp only [sm_65_b3d4410d, List.mem_cons, List.not_mem_nil, or_false] at z
    rcases z with rfl | rfl | rfl | rfl
    all_goals (simp only at z1 z2 z3; omega))
  simp only [sm_65_b3d4410d, List.mem_cons, List.not_mem_nil, or_false] at hq
  rcases hq with rfl
  · obtain rfl : r = none := by
      match r, hr with
      | none, _ => rfl
    exact ⟨w', hC, hG', hfr, (trivial)⟩
set_option maxRecDepth 100000 in
theorem xs_72_5c099397 {w : cm_W} (hG : sv_w sg w) : ∃ w' : cm_W, cm_C 1 72 [.inr (.inr (some 172)), .inr (.inr (some 33))] w (none, w') ∧ sv_w sg w' ∧ (∀ k i, ¬ ((k = 172 ∧ 1 ≤ i ∧ i ≤ 3) ∨ (k = 173 ∧ 0 ≤ i ∧ i ≤ 15) ∨ (k = 174 ∧ 0 ≤ i ∧ i ≤ 15) ∨ (k = 175 ∧ 0 ≤ i ∧ i ≤ 15) ∨ (k = 176 ∧ 0 ≤ i ∧ i ≤ 15) ∨ (k = 177 ∧ 0 ≤ i ∧ i ≤ 15) ∨ (k = 178 ∧ 0 ≤ i ∧ i ≤ 15)) → w'.1 k i = w.1 k i ∧ w'.2 k i = w.2 k i) ∧ ((True)) := by
  obtain ⟨r, w', hC, hG', hF, q, hq, hr, hp, hs⟩ := wk_use (d := 1) sm_72_5c099397_ok (by decide) (as := [.inr (.inr (some 172)), .inr (.inr (some 33))]) (w := w) ⟨rfl, rfl, trivial⟩ (fun f hf => by
    cases hf) hG
  have hfr : ∀ k i, ¬ ((k = 172 ∧ 1 ≤ i ∧ i ≤ 3) ∨ (k = 173 ∧ 0 ≤ i ∧ i ≤ 15) ∨ (k = 174 ∧ 0 ≤ i ∧ i ≤ 15) ∨ (k = 175 ∧ 0 ≤ i ∧ i ≤ 15) ∨ (k = 176 ∧ 0 ≤ i ∧ i ≤ 15) ∨ (k = 177 ∧ 0 ≤ i ∧ i ≤ 15) ∨ (k = 178 ∧ 0 ≤ i ∧ i ≤ 15)) → w'.1 k i = w.1 k i ∧ w'.2 k i = w.2 k i := fun k i hki => hF k i (fun ⟨r, z, z1, z2, z3⟩ => by
    simp only [sm_72_5c099397, List.mem_cons, List.not_mem_nil, or_false] at z
    rcases z with rfl | rfl | rfl | rfl | rfl | rfl | rfl
    all_goals (simp only at z1 z2 z3; omega))
  simp only [sm_72_5c099397, List.mem_cons, List.not_mem_nil, or_false] at hq
  rcases hq with rfl
  · obtain rfl : r = none := by
      match r, hr with
      | none, _ => rfl
    exact ⟨w', hC, hG', hfr, (trivial)⟩
set_option maxRecDepth 100000 in
theorem xs_65_dcb6a960 {w : cm_W} (hG : sv_w sg w) : ∃ w' : cm_W, cm_C 1 65 [.inr (.inr (some 179)), .inr (.inr (some 106))] w (none, w') ∧ sv_w sg w' ∧ (∀ k i, ¬ ((k = 179 ∧ 0 ≤ i ∧ i ≤ 1) ∨ (k = 180 ∧ 0 ≤ i ∧ i ≤ 47) ∨ (k = 181 ∧ 0 ≤ i ∧ i ≤ 47) ∨ (k = 182 ∧ 0 ≤ i ∧ i ≤ 47)) → w'.1 k i = w.1 k i ∧ w'.2 k i = w.2 k i) ∧ ((True)) := by
  obtain ⟨r, w', hC, hG', hF, q, hq, hr, hp, hs⟩ := wk_use (d := 1) sm_65_dcb6a960_ok (by decide) (as := [.inr (.inr (some 179)), .inr (.inr (some 106))]) (w := w) ⟨rfl, rfl, trivial⟩ (fun f hf => by
    cases hf) hG
  have hfr : ∀ k i, ¬ ((k = 179 ∧ 0 ≤ i ∧ i ≤ 1) ∨ (k = 180 ∧ 0 ≤ i ∧ i ≤ 47) ∨ (k = 181 ∧ 0 ≤ i ∧ i ≤ 47) ∨ (k = 182 ∧ 0 ≤ i ∧ i ≤ 47)) → w'.1 k i = w.1 k i ∧ w'.2 k i = w.2 k i := fun k i hki => hF k i (fun ⟨r, z, z1, z2, z3⟩ => by
    simp only [sm_65_dcb6a960, List.mem_cons, List.not_mem_nil, or_false] at z
    rcases z with rfl | rfl | rfl | rfl
    all_goals (simp only at z1 z2 z3; omega))
  simp only [sm_65_dcb6a960, List.mem_cons, List.not_mem_nil, or_false] at hq
  rcases hq with rfl
  · obtain rfl : r = none := by
      match r, hr with
      | none, _ => rfl
    exact ⟨w', hC, hG', hfr, (trivial)⟩
set_option maxRecDepth 100000 in
theorem xs_72_5ec8956d {w : cm_W} (hG : sv_w sg w) : ∃ w' : cm_W, cm_C 1 72 [.inr (.inr (some 33)), .inr (.inr (some 172))] w (none, w') ∧ sv_w sg w' ∧ (∀ k i, ¬ ((k = 33 ∧ 1 ≤ i ∧ i ≤ 3) ∨ (k = 34 ∧ 0 ≤ i ∧ i ≤ 15) ∨ (k = 35 ∧ 0 ≤ i ∧ i ≤ 15) ∨ (k = 36 ∧ 0 ≤ i ∧ i ≤ 15) ∨ (k = 37 ∧ 0 ≤ i ∧ i ≤ 15) ∨ (k = 38 ∧ 0 ≤ i ∧ i ≤ 15) ∨ (k = 39 ∧ 0 ≤ i ∧ i ≤ 15)) → w'.1 k i = w.1 k i ∧ w'.2 k i = w.2 k i) ∧ ((True)) := by
  obtain ⟨r, w', hC, hG', hF, q, hq, hr, hp, hs⟩ := wk_use (d := 1) sm_72_5ec8956d_ok (by decide) (as := [.inr (.inr (some 33)), .inr (.inr (some 172))]) (w := w) ⟨rfl, rfl, trivial⟩ (fun f hf => by
    cases hf) hG
  have hfr : ∀ k i, ¬ ((k = 33 ∧ 1 ≤ i ∧ i ≤ 3) ∨ (k = 34 ∧ 0 ≤ i ∧ i ≤ 15) ∨ (k = 35 ∧ 0 ≤ i ∧ i ≤ 15) ∨ (k = 36 ∧ 0 ≤ i ∧ i ≤ 15) ∨ (k = 37 ∧ 0 ≤ i ∧ i ≤ 15) ∨ (k = 38 ∧ 0 ≤ i ∧ i ≤ 15) ∨ (k = 39 ∧ 0 ≤ i ∧ i ≤ 15)) → w'.1 k i = w.1 k i ∧ w'.2 k i = w.2 k i := fun k i hki => hF k i (fun ⟨r, z, z1, z2, z3⟩ => by
    simp only [sm_72_5ec8956d, List.mem_cons, List.not_mem_nil, or_false] at z
    rcases z with rfl | rfl | rfl | rfl | rfl | rfl | rfl
    all_goals (simp only at z1 z2 z3; omega))
  simp only [sm_72_5ec8956d, List.mem_cons, List.not_mem_nil, or_false] at hq
  rcases hq with rfl
  · obtain rfl : r = none := by
      match r, hr with
      | none, _ => rfl
    exact ⟨w', hC, hG', hfr, (trivial)⟩
set_option maxRecDepth 100000 in
theorem xs_65_7cce58d6 {w : cm_W} (hG : sv_w sg w) : ∃ w' : cm_W, cm_C 1 65 [.inr (.inr (some 106)), .inr (.inr (some 179))] w (none, w') ∧ sv_w sg w' ∧ (∀ k i, ¬ ((k = 106 ∧ 0 ≤ i ∧ i ≤ 1) ∨ (k = 107 ∧ 0 ≤ i ∧ i ≤ 47) ∨ (k = 108 ∧ 0 ≤ i ∧ i ≤ 47) ∨ (k = 109 ∧ 0 ≤ i ∧ i ≤ 47)) → w'.1 k i = w.1 k i ∧ w'.2 k i = w.2 k i) ∧ ((True)) := by
  obtain ⟨r, w', hC, hG', hF, q, hq, hr, hp, hs⟩ := wk_use (d := 1) sm_65_7cce58d6_ok (by decide) (as := [.inr (.inr (some 106)), .inr (.inr (some 179))]) (w := w) ⟨rfl, rfl, trivial⟩ (fun f hf => by
    cases hf) hG
  have hfr : ∀ k i, ¬ ((k = 106 ∧ 0 ≤ i ∧ i ≤ 1) ∨ (k = 107 ∧ 0 ≤ i ∧ i ≤ 47) ∨ (k = 108 ∧ 0 ≤ i ∧ i ≤ 47) ∨ (k = 109 ∧ 0 ≤ i ∧ i ≤ 47)) → w'.1 k i = w.1 k i ∧ w'.2 k i = w.2 k i := fun k i hki => hF k i (fun ⟨r, z, z1, z2, z3⟩ => by
    simp only [sm_65_7cce58d6, List.mem_cons, List.not_mem_nil, or_false] at z
    rcases z with rfl | rfl | rfl | rfl
    all_goals (simp only at z1 z2 z3; omega))
  simp only [sm_65_7cce58d6, List.mem_cons, List.not_mem_nil, or_false] at hq
  rcases hq with rfl
  · obtain rfl : r = none := by
      match r, hr with
      | none, _ => rfl
    exact ⟨w', hC, hG', hfr, (trivial)⟩
/-! ## images of valleys (wip/p4/gen9vx.py) -/
theorem ci_image0 {w : cm_W} {k : Int32} (hk : k.toInt = 0) (hG : sv_w sg w) : ∃ x w', cm_C 2 17 [.inr (.inr (some 0)), .inl k] w (some (.inl x), w') ∧ (∀ j, j < 79 → vl_H w' 131 j = vl_H w 4 j) ∧ (∀ j, j < 16 → vl_N w' 131 j = vl_N w 4 j) ∧ (w'.1 130 0).toInt = 1 ∧ (∀ c i, ¬ (130 ≤ c ∧ c ≤ 156) → w'.1 c i = w.1 c i ∧ w'.2 c i = w.2 c i) := by
  have h : ∃ o, cm_C (1 + 1) 17 [.inr (.inr (some 0)), .inl k] w o ∧ (fun o : cm_O => ∃ x w', o = (some (.inl x), w') ∧ (∀ j, j < 79 → vl_H w' 131 j = vl_H w 4 j) ∧ (∀ j, j < 16 → vl_N w' 131 j = vl_N w 4 j) ∧ (w'.1 130 0).toInt = 1 ∧ (∀ c i, ¬ (130 ≤ c ∧ c ≤ 156) → w'.1 c i = w.1 c i ∧ w'.2 c i = w.2 c i)) o := by
    refine wk_entry (by rw [xm_4bd9d85d]; exact Nat.le_of_ble_eq_true rfl) ?_
    rw [show cm_ent 17 [.inr (.inr (some 0)), .inl k] = [some (.inr (.inr (some 0))), some (.inl k), none] from by unfold cm_ent; rw [xm_4bd9d85d]; rfl]
    refine wk_iload_n xd_e4b47357 rfl ?_
    obtain ⟨xe, hCe, hxe⟩ := jim_ok (w := w) (v := k)
    have hxe : xe.toInt = 1 := by
      rcases hxe with ⟨_, _, e⟩ | ⟨e, _⟩
      · rw [e]; decide
      · exfalso; omega
    refine wk_call (kd := 1) (i := 386) xd_4c6a18eb rfl (wk_cal (as := [.inl k]) (t := []) xl_9a673b16 rfl xn_cd1e0db1 xc_86f546fc rfl rfl rfl rfl) (cm_C_mono (by omega) hCe) ?_
    refine wk_if xd_b6d246d8 (t := 9) rfl (fun _ => ?_) (fun h => absurd (aw_ne_f hxe hb_z h) (by omega))
    refine wk_aload_n xd_181d2078 rfl ?_
    refine wk_getR xf_2c96914e xd_ec3408f3 ?_
    refine wk_iload_n xd_9400a31c rfl ?_
    refine aw_aaload (i := 0) xf_631baa43 hk rfl xd_cfe7b8df rfl ?_
    refine aw_astore_n xd_b545862f (by rw [xm_4bd9d85d]; rfl) rfl ?_
    refine wk_aload_n xd_128c41e6 rfl ?_
    refine wk_getR xf_422cbc6f xd_d313d710 ?_
    refine wk_aload_n xd_dd98c9d4 rfl ?_
    refine wk_getR xf_7266101c xd_9259eb03 ?_
    obtain ⟨wD, hCD, hDH, hDN, hDF⟩ := cv_131_4 (w := w)
    obtain ⟨wD2, hCD2, hGD, -⟩ := jcv_131_4 (w := w) hG
    obtain rfl : wD = wD2 := (Prod.mk.inj (cm_det hCD hCD2)).2
    refine wk_call (kd := 0) (i := 131) xd_d7e19759 rfl (wk_cal (as := [.inr (.inr (some 131)), .inr (.inr (some 4))]) (t := []) xl_8f86ae33 rfl xn_000cd9ad xc_6360c095 rfl rfl xv_b3bc9392 rfl) (cm_C_mono (by omega) hCD) ?_
    refine wk_aload_n xd_d1e1021a rfl ?_
    refine wk_getR xf_fb7d68cc xd_2b211d9d ?_
    refine wk_aload_n xd_c7ce4627 rfl ?_
    refine wk_getR xf_6b63b71b xd_d150620a ?_
    obtain ⟨wS, hCS, hGS, hFS, hxS⟩ := xs_72_4f3594ea (w := wD) hGD
    refine wk_call (kd := 0) (i := 333) xd_c583386b rfl (wk_cal (as := [.inr (.inr (some 145)), .inr (.inr (some 33))]) (t := []) xl_30671ae0 rfl xn_437ab768 xc_33cf4b98 rfl rfl xv_f7ccc335 rfl) (cm_C_mono (by omega) hCS) ?_
    refine wk_aload_n xd_26c4bcb5 rfl ?_
    refine wk_getR xf_75765c24 xd_9fd089fb ?_
    refine wk_aload_n xd_8033486d rfl ?_
    refine wk_getR xf_0852317a xd_6380bff8 ?_
    obtain ⟨wT, hCT, hGT, hFT, hxT⟩ := xs_65_73d11f74 (w := wS) hGS
    refine wk_call (kd := 0) (i := 377) xd_002ff75b rfl (wk_cal (as := [.inr (.inr (some 152)), .inr (.inr (some 106))]) (t := []) xl_a009f5f2 rfl xn_3a06b8dd xc_b41990b9 rfl rfl xv_e10d3936 rfl) (cm_C_mono (by omega) hCT) ?_
    refine wk_aload_n xd_8caf6116 rfl ?_
    refine wk_iconst xd_265d9258 ?_
    refine wk_putI xf_3656809d (fun _ => aw_fb (.inr (by decide))) xd_6ebcdaf4 ?_
    have hG2_ : sv_w sg (cm_u1 wT 130 0 (Int32.ofInt 1)) := sv_w_u1 hGT (by rw [xg_cc65b67e]; exact hb_mk (by rw [(show ((Int32.ofInt 1)).toInt = 1 from by decide)]; omega) (by rw [(show ((Int32.ofInt 1)).toInt = 1 from by decide)]; omega))
    refine wk_iconst xd_7afc0158 ?_
    refine wk_ireturn xd_0f44b3de xr_2bbbe127 wk_z1 ⟨_, _, rfl, fun j hj => ?_, fun j hj => ?_, ?_, fun c i hc => ⟨?_, ?_⟩⟩
    · rw [← hDH j hj]
      exact congrFun ((vl_H_fr (w := wT) (fun k i a b => hs_u1_ne (by omega))).trans ((vl_H_fr (w := wS) (fun k i a b => (hFT k i (by omega)).1)).trans (vl_H_fr (w := wD) (fun k i a b => (hFS k i (by omega)).1)))) j
    · rw [← hDN j hj]
      exact congrFun ((vl_N_fr (w := wT) (fun k i a b => rfl)).trans ((vl_N_fr (w := wS) (fun k i a b => (hFT k i (by omega)).2)).trans (vl_N_fr (w := wD) (fun k i a b => (hFS k i (by omega)).2)))) j
    · rw [hs_u1_self]
      decide
    · rw [hs_u1_ne (by omega), (hFT c i (by omega)).1, (hFS c i (by omega)).1, (hDF c i (by omega)).1]
    · exact ((hFT c i (by omega)).2.trans (hFS c i (by omega)).2).trans (hDF c i (by omega)).2
  obtain ⟨o, hC, x, w', rfl, a⟩ := h
  exact ⟨x, w', hC, a⟩
theorem ci_restore0 {w : cm_W} {k : Int32} (hk : k.toInt = 0) (hkept : (w.1 130 0).toInt ≠ 0) (hG : sv_w sg w) : ∃ x w', cm_C 2 37 [.inr (.inr (some 0)), .inl k] w (some (.inl x), w') ∧ (∀ j, j < 79 → vl_H w' 4 j = vl_H w 131 j) ∧ (∀ j, j < 16 → vl_N w' 4 j = vl_N w 131 j) ∧ (∀ c i, ¬ (4 ≤ c ∧ c ≤ 17) → ¬ (33 ≤ c ∧ c ≤ 39) → c ≠ 47 → ¬ (106 ≤ c ∧ c ≤ 109) → w'.1 c i = w.1 c i ∧ w'.2 c i = w.2 c i) := by
  have h : ∃ o, cm_C (1 + 1) 37 [.inr (.inr (some 0)), .inl k] w o ∧ (fun o : cm_O => ∃ x w', o = (some (.inl x), w') ∧ (∀ j, j < 79 → vl_H w' 4 j = vl_H w 131 j) ∧ (∀ j, j < 16 → vl_N w' 4 j = vl_N w 131 j) ∧ (∀ c i, ¬ (4 ≤ c ∧ c ≤ 17) → ¬ (33 ≤ c ∧ c ≤ 39) → c ≠ 47 → ¬ (106 ≤ c ∧ c ≤ 109) → w'.1 c i = w.1 c i ∧ w'.2 c i = w.2 c i)) o := by
    refine wk_entry (by rw [xm_06117956]; exact Nat.le_of_ble_eq_true rfl) ?_
    rw [show cm_ent 37 [.inr (.inr (some 0)), .inl k] = [some (.inr (.inr (some 0))), some (.inl k), none] from by unfold cm_ent; rw [xm_06117956]; rfl]
    refine wk_iload_n xd_39ac45d5 rfl ?_
    obtain ⟨xe, hCe, hxe⟩ := jim_ok (w := w) (v := k)
    have hxe : xe.toInt = 1 := by
      rcases hxe with ⟨_, _, e⟩ | ⟨e, _⟩
      · rw [e]; decide
      · exfalso; omega
    refine wk_call (kd := 1) (i := 386) xd_056eba87 rfl (wk_cal (as := [.inl k]) (t := []) xl_d363997a rfl xn_cd1e0db1 xc_86f546fc rfl rfl rfl rfl) (cm_C_mono (by omega) hCe) ?_
    refine wk_if xd_6d9f6040 (t := 19) rfl (fun h => absurd (aw_eq_t hxe hb_z h) (by omega)) (fun _ => ?_)
    refine wk_aload_n xd_287627a6 rfl ?_
    refine wk_getR xf_f18ea7cc xd_a683abf1 ?_
    refine wk_iload_n xd_7afd8acf rfl ?_
    refine aw_aaload (i := 0) xf_631baa43 hk rfl xd_dba20357 rfl ?_
    refine wk_getI xf_504bc934 xd_58c472d8 ?_
    refine wk_if xd_7dfbe136 (t := 21) rfl (fun h16_1 => ?_) (fun h16_1 => ?_)
    · have h16_1 := aw_ne_t (a := ((w.1 130 0).toInt : Int)) (b := (0 : Int)) rfl hb_z h16_1
      refine wk_aload_n xd_4580d93a rfl ?_
      refine wk_getR xf_f18ea7cc xd_f6c40546 ?_
      refine wk_iload_n xd_22bf8274 rfl ?_
      refine aw_aaload (i := 0) xf_631baa43 hk rfl xd_ee516aed rfl ?_
      refine aw_astore_n xd_9f9c4e3b (by rw [xm_06117956]; rfl) rfl ?_
      refine wk_aload_n xd_de4a70c8 rfl ?_
      refine wk_getR xf_ab5ddc13 xd_c693bea4 ?_
      refine wk_aload_n xd_c880d640 rfl ?_
      refine wk_getR xf_84230e27 xd_3950a6ee ?_
      obtain ⟨wD, hCD, hDH, hDN, hDF⟩ := cv_4_131 (w := w)
      obtain ⟨wD2, hCD2, hGD, -⟩ := jcv_4_131 (w := w) hG
      obtain rfl : wD = wD2 := (Prod.mk.inj (cm_det hCD hCD2)).2
      refine wk_call (kd := 0) (i := 131) xd_ca64ec3a rfl (wk_cal (as := [.inr (.inr (some 4)), .inr (.inr (some 131))]) (t := []) xl_e2638fd5 rfl xn_000cd9ad xc_6360c095 rfl rfl xv_1cbefe77 rfl) (cm_C_mono (by omega) hCD) ?_
      refine wk_aload_n xd_c41cff3b rfl ?_
      refine wk_getR xf_fb059146 xd_e134f961 ?_
      refine wk_aload_n xd_62eb0be3 rfl ?_
      refine wk_getR xf_3d72da84 xd_f50a2a9a ?_
      obtain ⟨wS, hCS, hGS, hFS, hxS⟩ := xs_72_006d521e (w := wD) hGD
      refine wk_call (kd := 0) (i := 333) xd_91495437 rfl (wk_cal (as := [.inr (.inr (some 33)), .inr (.inr (some 145))]) (t := []) xl_7963b88c rfl xn_437ab768 xc_33cf4b98 rfl rfl xv_c9e5fcbe rfl) (cm_C_mono (by omega) hCS) ?_
      refine wk_aload_n xd_efeb0499 rfl ?_
      refine wk_getR xf_d54a07f8 xd_6c3af922 ?_
      refine wk_aload_n xd_9577f66a rfl ?_
      refine wk_getR xf_b379ee6c xd_41fbbefc ?_
      obtain ⟨wT, hCT, hGT, hFT, hxT⟩ := xs_65_b3d4410d (w := wS) hGS
      refine wk_call (kd := 0) (i := 377) xd_510a69f4 rfl (wk_cal (as := [.inr (.inr (some 106)), .inr (.inr (some 152))]) (t := []) xl_e90d579e rfl xn_3a06b8dd xc_b41990b9 rfl rfl xv_c9773da4 rfl) (cm_C_mono (by omega) hCT) ?_
      refine wk_aload_n xd_2c864765 rfl ?_
      refine wk_getR xf_087dcd46 xd_af4447f6 ?_
      obtain ⟨wH, hCH, hGH, hFH, hxH⟩ := xs_53_895c94a4 (w := wT) hGT
      refine wk_call (kd := 0) (i := 140) xd_7979d3c1 rfl (wk_cal (as := [.inr (.inr (some 47))]) (t := []) xl_e34c5633 rfl xn_aadb6e69 xc_b9d9740a rfl rfl xv_919b42ff rfl) (cm_C_mono (by omega) hCH) ?_
      refine wk_iconst xd_34e3bbe7 ?_
      refine wk_ireturn xd_147d583c xr_2e6f8aa4 wk_z1 ⟨_, _, rfl, fun j hj => ?_, fun j hj => ?_, fun c i hc hc2 hc3 hc4 => ⟨?_, ?_⟩⟩
      · rw [← hDH j hj]
        exact congrFun ((vl_H_fr (w := wT) (fun k i a b => (hFH k i (by omega)).1)).trans ((vl_H_fr (w := wS) (fun k i a b => (hFT k i (by omega)).1)).trans (vl_H_fr (w := wD) (fun k i a b => (hFS k i (by omega)).1)))) j
      · rw [← hDN j hj]
        exact congrFun ((vl_N_fr (w := wT) (fun k i a b => (hFH k i (by omega)).2)).trans ((vl_N_fr (w := wS) (fun k i a b => (hFT k i (by omega)).2)).trans (vl_N_fr (w := wD) (fun k i a b => (hFS k i (by omega)).2)))) j
      · rw [(hFH c i (by omega)).1, (hFT c i (by omega)).1, (hFS c i (by omega)).1, (hDF c i (by omega)).1]
      · rw [(hFH c i (by omega)).2, (hFT c i (by omega)).2, (hFS c i (by omega)).2, (hDF c i (by omega)).2]
    · have h16_1 := aw_ne_f (a := ((w.1 130 0).toInt : Int)) (b := (0 : Int)) rfl hb_z h16_1
      exfalso
      omega
  obtain ⟨o, hC, x, w', rfl, a⟩ := h
  exact ⟨x, w', hC, a⟩
theorem ci_restoreE0 {w : cm_W} {k : Int32} (hk : k.toInt = 0) (hkept : (w.1 130 0).toInt = 0) : cm_C 2 37 [.inr (.inr (some 0)), .inl k] w (some (.inl (Int32.ofInt 0)), w) := by
  have h : ∃ o, cm_C (1 + 1) 37 [.inr (.inr (some 0)), .inl k] w o ∧ (fun o : cm_O => o = (some (.inl (Int32.ofInt 0)), w)) o := by
    refine wk_entry (by rw [xm_06117956]; exact Nat.le_of_ble_eq_true rfl) ?_
    rw [show cm_ent 37 [.inr (.inr (some 0)), .inl k] = [some (.inr (.inr (some 0))), some (.inl k), none] from by unfold cm_ent; rw [xm_06117956]; rfl]
    refine wk_iload_n xd_39ac45d5 rfl ?_
    obtain ⟨xe, hCe, hxe⟩ := jim_ok (w := w) (v := k)
    have hxe : xe.toInt = 1 := by
      rcases hxe with ⟨_, _, e⟩ | ⟨e, _⟩
      · rw [e]; decide
      · exfalso; omega
    refine wk_call (kd := 1) (i := 386) xd_056eba87 rfl (wk_cal (as := [.inl k]) (t := []) xl_d363997a rfl xn_cd1e0db1 xc_86f546fc rfl rfl rfl rfl) (cm_C_mono (by omega) hCe) ?_
    refine wk_if xd_6d9f6040 (t := 19) rfl (fun h => absurd (aw_eq_t hxe hb_z h) (by omega)) (fun _ => ?_)
    refine wk_aload_n xd_287627a6 rfl ?_
    refine wk_getR xf_f18ea7cc xd_a683abf1 ?_
    refine wk_iload_n xd_7afd8acf rfl ?_
    refine aw_aaload (i := 0) xf_631baa43 hk rfl xd_dba20357 rfl ?_
    refine wk_getI xf_504bc934 xd_58c472d8 ?_
    refine wk_if xd_7dfbe136 (t := 21) rfl (fun h16_1 => ?_) (fun h16_1 => ?_)
    · have h16_1 := aw_ne_t (a := ((w.1 130 0).toInt : Int)) (b := (0 : Int)) rfl hb_z h16_1
      exfalso
      omega
    · have h16_1 := aw_ne_f (a := ((w.1 130 0).toInt : Int)) (b := (0 : Int)) rfl hb_z h16_1
      refine wk_iconst xd_68126e39 ?_
      exact wk_ireturn xd_f2f441d4 xr_2e6f8aa4 wk_z0 rfl
  obtain ⟨o, hC, rfl⟩ := h
  exact hC
theorem ci_image1 {w : cm_W} {k : Int32} (hk : k.toInt = 1) (hG : sv_w sg w) : ∃ x w', cm_C 2 17 [.inr (.inr (some 0)), .inl k] w (some (.inl x), w') ∧ (∀ j, j < 79 → vl_H w' 158 j = vl_H w 4 j) ∧ (∀ j, j < 16 → vl_N w' 158 j = vl_N w 4 j) ∧ (w'.1 157 0).toInt = 1 ∧ (∀ c i, ¬ (157 ≤ c ∧ c ≤ 183) → w'.1 c i = w.1 c i ∧ w'.2 c i = w.2 c i) := by
  have h : ∃ o, cm_C (1 + 1) 17 [.inr (.inr (some 0)), .inl k] w o ∧ (fun o : cm_O => ∃ x w', o = (some (.inl x), w') ∧ (∀ j, j < 79 → vl_H w' 158 j = vl_H w 4 j) ∧ (∀ j, j < 16 → vl_N w' 158 j = vl_N w 4 j) ∧ (w'.1 157 0).toInt = 1 ∧ (∀ c i, ¬ (157 ≤ c ∧ c ≤ 183) → w'.1 c i = w.1 c i ∧ w'.2 c i = w.2 c i)) o := by
    refine wk_entry (by rw [xm_4bd9d85d]; exact Nat.le_of_ble_eq_true rfl) ?_
    rw [show cm_ent 17 [.inr (.inr (some 0)), .inl k] = [some (.inr (.inr (some 0))), some (.inl k), none] from by unfold cm_ent; rw [xm_4bd9d85d]; rfl]
    refine wk_iload_n xd_e4b47357 rfl ?_
    obtain ⟨xe, hCe, hxe⟩ := jim_ok (w := w) (v := k)
    have hxe : xe.toInt = 1 := by
      rcases hxe with ⟨_, _, e⟩ | ⟨e, _⟩
      · rw [e]; decide
      · exfalso; omega
    refine wk_call (kd := 1) (i := 386) xd_4c6a18eb rfl (wk_cal (as := [.inl k]) (t := []) xl_9a673b16 rfl xn_cd1e0db1 xc_86f546fc rfl rfl rfl rfl) (cm_C_mono (by omega) hCe) ?_
    refine wk_if xd_b6d246d8 (t := 9) rfl (fun _ => ?_) (fun h => absurd (aw_ne_f hxe hb_z h) (by omega))
    refine wk_aload_n xd_181d2078 rfl ?_
    refine wk_getR xf_2c96914e xd_ec3408f3 ?_
    refine wk_iload_n xd_9400a31c rfl ?_
    refine aw_aaload (i := 1) xf_816196bf hk rfl xd_cfe7b8df rfl ?_
    refine aw_astore_n xd_b545862f (by rw [xm_4bd9d85d]; rfl) rfl ?_
    refine wk_aload_n xd_128c41e6 rfl ?_
    refine wk_getR xf_2a025e64 xd_d313d710 ?_
    refine wk_aload_n xd_dd98c9d4 rfl ?_
    refine wk_getR xf_7266101c xd_9259eb03 ?_
    obtain ⟨wD, hCD, hDH, hDN, hDF⟩ := cv_158_4 (w := w)
    obtain ⟨wD2, hCD2, hGD, -⟩ := jcv_158_4 (w := w) hG
    obtain rfl : wD = wD2 := (Prod.mk.inj (cm_det hCD hCD2)).2
    refine wk_call (kd := 0) (i := 131) xd_d7e19759 rfl (wk_cal (as := [.inr (.inr (some 158)), .inr (.inr (some 4))]) (t := []) xl_8f86ae33 rfl xn_000cd9ad xc_6360c095 rfl rfl xv_27cc08f7 rfl) (cm_C_mono (by omega) hCD) ?_
    refine wk_aload_n xd_d1e1021a rfl ?_
    refine wk_getR xf_ed16e81a xd_2b211d9d ?_
    refine wk_aload_n xd_c7ce4627 rfl ?_
    refine wk_getR xf_6b63b71b xd_d150620a ?_
    obtain ⟨wS, hCS, hGS, hFS, hxS⟩ := xs_72_5c099397 (w := wD) hGD
    refine wk_call (kd := 0) (i := 333) xd_c583386b rfl (wk_cal (as := [.inr (.inr (some 172)), .inr (.inr (some 33))]) (t := []) xl_30671ae0 rfl xn_437ab768 xc_33cf4b98 rfl rfl xv_a9690446 rfl) (cm_C_mono (by omega) hCS) ?_
    refine wk_aload_n xd_26c4bcb5 rfl ?_
    refine wk_getR xf_64a8847f xd_9fd089fb ?_
    refine wk_aload_n xd_8033486d rfl ?_
    refine wk_getR xf_0852317a xd_6380bff8 ?_
    obtain ⟨wT, hCT, hGT, hFT, hxT⟩ := xs_65_dcb6a960 (w := wS) hGS
    refine wk_call (kd := 0) (i := 377) xd_002ff75b rfl (wk_cal (as := [.inr (.inr (some 179)), .inr (.inr (some 106))]) (t := []) xl_a009f5f2 rfl xn_3a06b8dd xc_b41990b9 rfl rfl xv_2e1720ed rfl) (cm_C_mono (by omega) hCT) ?_
    refine wk_aload_n xd_8caf6116 rfl ?_
    refine wk_iconst xd_265d9258 ?_
    refine wk_putI xf_e22bb6cf (fun _ => aw_fb (.inr (by decide))) xd_6ebcdaf4 ?_
    have hG2_ : sv_w sg (cm_u1 wT 157 0 (Int32.ofInt 1)) := sv_w_u1 hGT (by rw [xg_5f176da0]; exact hb_mk (by rw [(show ((Int32.ofInt 1)).toInt = 1 from by decide)]; omega) (by rw [(show ((Int32.ofInt 1)).toInt = 1 from by decide)]; omega))
    refine wk_iconst xd_7afc0158 ?_
    refine wk_ireturn xd_0f44b3de xr_2bbbe127 wk_z1 ⟨_, _, rfl, fun j hj => ?_, fun j hj => ?_, ?_, fun c i hc => ⟨?_, ?_⟩⟩
    · rw [← hDH j hj]
      exact congrFun ((vl_H_fr (w := wT) (fun k i a b => hs_u1_ne (by omega))).trans ((vl_H_fr (w := wS) (fun k i a b => (hFT k i (by omega)).1)).trans (vl_H_fr (w := wD) (fun k i a b => (hFS k i (by omega)).1)))) j
    · rw [← hDN j hj]
      exact congrFun ((vl_N_fr (w := wT) (fun k i a b => rfl)).trans ((vl_N_fr (w := wS) (fun k i a b => (hFT k i (by omega)).2)).trans (vl_N_fr (w := wD) (fun k i a b => (hFS k i (by omega)).2)))) j
    · rw [hs_u1_self]
      decide
    · rw [hs_u1_ne (by omega), (hFT c i (by omega)).1, (hFS c i (by omega)).1, (hDF c i (by omega)).1]
    · exact ((hFT c i (by omega)).2.trans (hFS c i (by omega)).2).trans (hDF c i (by omega)).2
  obtain ⟨o, hC, x, w', rfl, a⟩ := h
  exact ⟨x, w', hC, a⟩
theorem ci_restore1 {w : cm_W} {k : Int32} (hk : k.toInt = 1) (hkept : (w.1 157 0).toInt ≠ 0) (hG : sv_w sg w) : ∃ x w', cm_C 2 37 [.inr (.inr (some 0)), .inl k] w (some (.inl x), w') ∧ (∀ j, j < 79 → vl_H w' 4 j = vl_H w 158 j) ∧ (∀ j, j < 16 → vl_N w' 4 j = vl_N w 158 j) ∧ (∀ c i, ¬ (4 ≤ c ∧ c ≤ 17) → ¬ (33 ≤ c ∧ c ≤ 39) → c ≠ 47 → ¬ (106 ≤ c ∧ c ≤ 109) → w'.1 c i = w.1 c i ∧ w'.2 c i = w.2 c i) := by
  have h : ∃ o, cm_C (1 + 1) 37 [.inr (.inr (some 0)), .inl k] w o ∧ (fun o : cm_O => ∃ x w', o = (some (.inl x), w') ∧ (∀ j, j < 79 → vl_H w' 4 j = vl_H w 158 j) ∧ (∀ j, j < 16 → vl_N w' 4 j = vl_N w 158 j) ∧ (∀ c i, ¬ (4 ≤ c ∧ c ≤ 17) → ¬ (33 ≤ c ∧ c ≤ 39) → c ≠ 47 → ¬ (106 ≤ c ∧ c ≤ 109) → w'.1 c i = w.1 c i ∧ w'.2 c i = w.2 c i)) o := by
    refine wk_entry (by rw [xm_06117956]; exact Nat.le_of_ble_eq_true rfl) ?_
    rw [show cm_ent 37 [.inr (.inr (some 0)), .inl k] = [some (.inr (.inr (some 0))), some (.inl k), none] from by unfold cm_ent; rw [xm_06117956]; rfl]
    refine wk_iload_n xd_39ac45d5 rfl ?_
    obtain ⟨xe, hCe, hxe⟩ := jim_ok (w := w) (v := k)
    have hxe : xe.toInt = 1 := by
      rcases hxe with ⟨_, _, e⟩ | ⟨e, _⟩
      · rw [e]; decide
      · exfalso; omega
    refine wk_call (kd := 1) (i := 386) xd_056eba87 rfl (wk_cal (as := [.inl k]) (t := []) xl_d363997a rfl xn_cd1e0db1 xc_86f546fc rfl rfl rfl rfl) (cm_C_mono (by omega) hCe) ?_
    refine wk_if xd_6d9f6040 (t := 19) rfl (fun h => absurd (aw_eq_t hxe hb_z h) (by omega)) (fun _ => ?_)
    refine wk_aload_n xd_287627a6 rfl ?_
    refine wk_getR xf_f18ea7cc xd_a683abf1 ?_
    refine wk_iload_n xd_7afd8acf rfl ?_
    refine aw_aaload (i := 1) xf_816196bf hk rfl xd_dba20357 rfl ?_
    refine wk_getI xf_8436ff66 xd_58c472d8 ?_
    refine wk_if xd_7dfbe136 (t := 21) rfl (fun h16_1 => ?_) (fun h16_1 => ?_)
    · have h16_1 := aw_ne_t (a := ((w.1 157 0).toInt : Int)) (b := (0 : Int)) rfl hb_z h16_1
      refine wk_aload_n xd_4580d93a rfl ?_
      refine wk_getR xf_f18ea7cc xd_f6c40546 ?_
      refine wk_iload_n xd_22bf8274 rfl ?_
      refine aw_aaload (i := 1) xf_816196bf hk rfl xd_ee516aed rfl ?_
      refine aw_astore_n xd_9f9c4e3b (by rw [xm_06117956]; rfl) rfl ?_
      refine wk_aload_n xd_de4a70c8 rfl ?_
      refine wk_getR xf_ab5ddc13 xd_c693bea4 ?_
      refine wk_aload_n xd_c880d640 rfl ?_
      refine wk_getR xf_ec0dec2c xd_3950a6ee ?_
      obtain ⟨wD, hCD, hDH, hDN, hDF⟩ := cv_4_158 (w := w)
      obtain ⟨wD2, hCD2, hGD, -⟩ := jcv_4_158 (w := w) hG
      obtain rfl : wD = wD2 := (Prod.mk.inj (cm_det hCD hCD2)).2
      refine wk_call (kd := 0) (i := 131) xd_ca64ec3a rfl (wk_cal (as := [.inr (.inr (some 4)), .inr (.inr (some 158))]) (t := []) xl_e2638fd5 rfl xn_000cd9ad xc_6360c095 rfl rfl xv_1cbefe77 rfl) (cm_C_mono (by omega) hCD) ?_
      refine wk_aload_n xd_c41cff3b rfl ?_
      refine wk_getR xf_fb059146 xd_e134f961 ?_
      refine wk_aload_n xd_62eb0be3 rfl ?_
      refine wk_getR xf_2b195a52 xd_f50a2a9a ?_
      obtain ⟨wS, hCS, hGS, hFS, hxS⟩ := xs_72_5ec8956d (w := wD) hGD
      refine wk_call (kd := 0) (i := 333) xd_91495437 rfl (wk_cal (as := [.inr (.inr (some 33)), .inr (.inr (some 172))]) (t := []) xl_7963b88c rfl xn_437ab768 xc_33cf4b98 rfl rfl xv_c9e5fcbe rfl) (cm_C_mono (by omega) hCS) ?_
      refine wk_aload_n xd_efeb0499 rfl ?_
      refine wk_getR xf_d54a07f8 xd_6c3af922 ?_
      refine wk_aload_n xd_9577f66a rfl ?_
      refine wk_getR xf_a2a73637 xd_41fbbefc ?_
      obtain ⟨wT, hCT, hGT, hFT, hxT⟩ := xs_65_7cce58d6 (w := wS) hGS
      refine wk_call (kd := 0) (i := 377) xd_510a69f4 rfl (wk_cal (as := [.inr (.inr (some 106)), .inr (.inr (some 179))]) (t := []) xl_e90d579e rfl xn_3a06b8dd xc_b41990b9 rfl rfl xv_c9773da4 rfl) (cm_C_mono (by omega) hCT) ?_
      refine wk_aload_n xd_2c864765 rfl ?_
      refine wk_getR xf_087dcd46 xd_af4447f6 ?_
      obtain ⟨wH, hCH, hGH, hFH, hxH⟩ := xs_53_895c94a4 (w := wT) hGT
      refine wk_call (kd := 0) (i := 140) xd_7979d3c1 rfl (wk_cal (as := [.inr (.inr (some 47))]) (t := []) xl_e34c5633 rfl xn_aadb6e69 xc_b9d9740a rfl rfl xv_919b42ff rfl) (cm_C_mono (by omega) hCH) ?_
      refine wk_iconst xd_34e3bbe7 ?_
      refine wk_ireturn xd_147d583c xr_2e6f8aa4 wk_z1 ⟨_, _, rfl, fun j hj => ?_, fun j hj => ?_, fun c i hc hc2 hc3 hc4 => ⟨?_, ?_⟩⟩
      · rw [← hDH j hj]
        exact congrFun ((vl_H_fr (w := wT) (fun k i a b => (hFH k i (by omega)).1)).trans ((vl_H_fr (w := wS) (fun k i a b => (hFT k i (by omega)).1)).trans (vl_H_fr (w := wD) (fun k i a b => (hFS k i (by omega)).1)))) j
      · rw [← hDN j hj]
        exact congrFun ((vl_N_fr (w := wT) (fun k i a b => (hFH k i (by omega)).2)).trans ((vl_N_fr (w := wS) (fun k i a b => (hFT k i (by omega)).2)).trans (vl_N_fr (w := wD) (fun k i a b => (hFS k i (by omega)).2)))) j
      · rw [(hFH c i (by omega)).1, (hFT c i (by omega)).1, (hFS c i (by omega)).1, (hDF c i (by omega)).1]
      · rw [(hFH c i (by omega)).2, (hFT c i (by omega)).2, (hFS c i (by omega)).2, (hDF c i (by omega)).2]
    · have h16_1 := aw_ne_f (a := ((w.1 157 0).toInt : Int)) (b := (0 : Int)) rfl hb_z h16_1
      exfalso
      omega
  obtain ⟨o, hC, x, w', rfl, a⟩ := h
  exact ⟨x, w', hC, a⟩
theorem ci_restoreE1 {w : cm_W} {k : Int32} (hk : k.toInt = 1) (hkept : (w.1 157 0).toInt = 0) : cm_C 2 37 [.inr (.inr (some 0)), .inl k] w (some (.inl (Int32.ofInt 0)), w) := by
  have h : ∃ o, cm_C (1 + 1) 37 [.inr (.inr (some 0)), .inl k] w o ∧ (fun o : cm_O => o = (some (.inl (Int32.ofInt 0)), w)) o := by
    refine wk_entry (by rw [xm_06117956]; exact Nat.le_of_ble_eq_true rfl) ?_
    rw [show cm_ent 37 [.inr (.inr (some 0)), .inl k] = [some (.inr (.inr (some 0))), some (.inl k), none] from by unfold cm_ent; rw [xm_06117956]; rfl]
    refine wk_iload_n xd_39ac45d5 rfl ?_
    obtain ⟨xe, hCe, hxe⟩ := jim_ok (w := w) (v := k)
    have hxe : xe.toInt = 1 := by
      rcases hxe with ⟨_, _, e⟩ | ⟨e, _⟩
      · rw [e]; decide
      · exfalso; omega
    refine wk_call (kd := 1) (i := 386) xd_056eba87 rfl (wk_cal (as := [.inl k]) (t := []) xl_d363997a rfl xn_cd1e0db1 xc_86f546fc rfl rfl rfl rfl) (cm_C_mono (by omega) hCe) ?_
    refine wk_if xd_6d9f6040 (t := 19) rfl (fun h => absurd (aw_eq_t hxe hb_z h) (by omega)) (fun _ => ?_)
    refine wk_aload_n xd_287627a6 rfl ?_
    refine wk_getR xf_f18ea7cc xd_a683abf1 ?_
    refine wk_iload_n xd_7afd8acf rfl ?_
    refine aw_aaload (i := 1) xf_816196bf hk rfl xd_dba20357 rfl ?_
    refine wk_getI xf_8436ff66 xd_58c472d8 ?_
    refine wk_if xd_7dfbe136 (t := 21) rfl (fun h16_1 => ?_) (fun h16_1 => ?_)
    · have h16_1 := aw_ne_t (a := ((w.1 157 0).toInt : Int)) (b := (0 : Int)) rfl hb_z h16_1
      exfalso
      omega
    · have h16_1 := aw_ne_f (a := ((w.1 157 0).toInt : Int)) (b := (0 : Int)) rfl hb_z h16_1
      refine wk_iconst xd_68126e39 ?_
      exact wk_ireturn xd_f2f441d4 xr_2e6f8aa4 wk_z0 rfl
  obtain ⟨o, hC, rfl⟩ := h
  exact hC
theorem ci_imageN {w : cm_W} {k : Int32} (hk : ¬ (0 ≤ k.toInt ∧ k.toInt ≤ 1)) : cm_C 2 17 [.inr (.inr (some 0)), .inl k] w (some (.inl (Int32.ofInt 0)), w) := by
  have h : ∃ o, cm_C (1 + 1) 17 [.inr (.inr (some 0)), .inl k] w o ∧ (fun o : cm_O => o = (some (.inl (Int32.ofInt 0)), w)) o := by
    refine wk_entry (by rw [xm_4bd9d85d]; exact Nat.le_of_ble_eq_true rfl) ?_
    rw [show cm_ent 17 [.inr (.inr (some 0)), .inl k] = [some (.inr (.inr (some 0))), some (.inl k), none] from by unfold cm_ent; rw [xm_4bd9d85d]; rfl]
    refine wk_iload_n xd_e4b47357 rfl ?_
    obtain ⟨xe, hCe, hxe⟩ := jim_ok (w := w) (v := k)
    have hxe : xe.toInt = 0 := by
      rcases hxe with ⟨e1, e2, _⟩ | ⟨_, e⟩
      · exact absurd ⟨e1, e2⟩ hk
      · rw [e]; decide
    refine wk_call (kd := 1) (i := 386) xd_4c6a18eb rfl (wk_cal (as := [.inl k]) (t := []) xl_9a673b16 rfl xn_cd1e0db1 xc_86f546fc rfl rfl rfl rfl) (cm_C_mono (by omega) hCe) ?_
    refine wk_if xd_b6d246d8 (t := 9) rfl (fun h => absurd (aw_ne_t hxe hb_z h) (by omega)) (fun _ => ?_)
    refine wk_iconst xd_99e44d7e ?_
    exact wk_ireturn xd_1f70ec83 xr_2bbbe127 wk_z0 rfl
  obtain ⟨o, hC, rfl⟩ := h
  exact hC
theorem ci_restoreN {w : cm_W} {k : Int32} (hk : ¬ (0 ≤ k.toInt ∧ k.toInt ≤ 1)) : cm_C 2 37 [.inr (.inr (some 0)), .inl k] w (some (.inl (Int32.ofInt 0)), w) := by
  have h : ∃ o, cm_C (1 + 1) 37 [.inr (.inr (some 0)), .inl k] w o ∧ (fun o : cm_O => o = (some (.inl (Int32.ofInt 0)), w)) o := by
    refine wk_entry (by rw [xm_06117956]; exact Nat.le_of_ble_eq_true rfl) ?_
    rw [show cm_ent 37 [.inr (.inr (some 0)), .inl k] = [some (.inr (.inr (some 0))), some (.inl k), none] from by unfold cm_ent; rw [xm_06117956]; rfl]
    refine wk_iload_n xd_39ac45d5 rfl ?_
    obtain ⟨xe, hCe, hxe⟩ := jim_ok (w := w) (v := k)
    have hxe : xe.toInt = 0 := by
      rcases hxe with ⟨e1, e2, _⟩ | ⟨_, e⟩
      · exact absurd ⟨e1, e2⟩ hk
      · rw [e]; decide
    refine wk_call (kd := 1) (i := 386) xd_056eba87 rfl (wk_cal (as := [.inl k]) (t := []) xl_d363997a rfl xn_cd1e0db1 xc_86f546fc rfl rfl rfl rfl) (cm_C_mono (by omega) hCe) ?_
    refine wk_if xd_6d9f6040 (t := 19) rfl (fun _ => ?_) (fun h => absurd (aw_eq_f hxe hb_z h) (by omega))
    refine wk_iconst xd_68126e39 ?_
    exact wk_ireturn xd_f2f441d4 xr_2e6f8aa4 wk_z0 rfl
  obtain ⟨o, hC, rfl⟩ := h
  exact hC
theorem mi_s0 (w1 : cm_W) {k : Int32} (hkm : k.toInt = 0) (Q : cm_O → Prop) (hk : ∀ (w : cm_W) (lk : Option cm_V), (∀ j, j < 301 → w.1 201 j = w1.1 186 j) → (∀ c j, ¬ (c = 201 ∧ 0 ≤ j ∧ j < 301) → w.1 c j = w1.1 c j) ∧ (∀ c j, w.2 c j = w1.2 c j) → cm_X (cm_C 1) 112 49 [some (.inr (.inr (some 184))), some (.inl k), lk] [] w Q) : ∀ (d i : Nat) (z : Int32) (w : cm_W), d + i = 301 → z.toInt = (i : Int) → (∀ j, j < i → w.1 201 j = w1.1 186 j) → (∀ c j, ¬ (c = 201 ∧ 0 ≤ j ∧ j < 301) → w.1 c j = w1.1 c j) ∧ (∀ c j, w.2 c j = w1.2 c j) → cm_X (cm_C 1) 112 18 [some (.inr (.inr (some 184))), some (.inl k), some (.inl z)] [] w Q := by
  intro d
  induction d with
  | zero =>
    intro i z w hi hz hI hF
    refine wk_iload_n xd_79ea442e rfl ?_
    refine wk_sipush xd_d3977a77 ?_
    refine wk_icmp xd_697c47a5 (t := 49) rfl (fun h22_0 => ?_) (fun h22_0 => ?_)
    · have h22_0 := aw_ge_t (a := ((i : Int) : Int)) (b := (301 : Int)) hz (show (((Int16.ofInt 301).toInt32)).toInt = 301 from by decide) h22_0
      have e9 : i = 301 := by omega
      subst e9
      exact hk w _ hI hF
    · have h22_0 := aw_ge_f (a := ((i : Int) : Int)) (b := (301 : Int)) hz (show (((Int16.ofInt 301).toInt32)).toInt = 301 from by decide) h22_0
      exfalso
      omega
  | succ d ih =>
    intro i z w hi hz hI hF
    refine wk_iload_n xd_79ea442e rfl ?_
    refine wk_sipush xd_d3977a77 ?_
    refine wk_icmp xd_697c47a5 (t := 49) rfl (fun h22_1 => ?_) (fun h22_1 => ?_)
    · have h22_1 := aw_ge_t (a := ((i : Int) : Int)) (b := (301 : Int)) hz (show (((Int16.ofInt 301).toInt32)).toInt = 301 from by decide) h22_1
      exfalso
      omega
    · have h22_1 := aw_ge_f (a := ((i : Int) : Int)) (b := (301 : Int)) hz (show (((Int16.ofInt 301).toInt32)).toInt = 301 from by decide) h22_1
      refine wk_aload_n xd_9aa1656a rfl ?_
      refine wk_getR xf_4177b957 xd_7c429694 ?_
      refine wk_sipush xd_e67acc24 ?_
      refine wk_iload_n xd_0a5e623e rfl ?_
      refine aw_imul (a := (301 : Int)) (b := (0 : Int)) (e := (0 : Int)) xd_f36a3ea3 (show (((Int16.ofInt 301).toInt32)).toInt = 301 from by decide) hkm (by omega) (by omega) (by omega) (fun v3_ p3_ => ?_)
      refine wk_iload_n xd_a0346a94 rfl ?_
      refine aw_iadd (a := (0 : Int)) (b := ((i : Int) : Int)) (e := ((i : Int) : Int)) xd_c24c72ad p3_ hz (by omega) (by omega) (by omega) (fun v4_ p4_ => ?_)
      refine wk_aload_n xd_6d613970 rfl ?_
      refine wk_getR xf_4d4d1b3e xd_a193f60e ?_
      refine wk_iload_n xd_9170fc70 rfl ?_
      refine aw_iaload (i := i) xf_31d67ad9 hz (by omega) (by omega) xd_256bec61 ?_
      refine aw_iastore (i := i) xf_e2f87daf p4_ (by omega) (by omega) xd_86ec21b8 ?_
      refine aw_iinc (a := ((i : Int) : Int)) (b := (1 : Int)) (e := ((i : Int) + 1 : Int)) xd_76dae1eb (by rw [xm_6358a306]; rfl) rfl rfl hz (show ((Int32.ofInt 1)).toInt = 1 from by decide) (by omega) (by omega) (by omega) (fun v5_ p5_ => ?_)
      refine wk_goto xd_f3101ed6 (t := 18) rfl ?_
      refine ih (i + 1) _ _ (by omega) (by omega) ?_ ?_
      · intro j hj
        by_cases e : j = i
        · rw [e, hs_u1_self]
          exact hF.1 186 i (by omega)
        · rw [hs_u1_ne (by omega)]
          exact hI j (by omega)
      · exact ⟨fun c j hc => (hs_u1_ne (by omega)).trans (hF.1 c j hc), hF.2⟩
theorem mi_n0 (w1 : cm_W) {k : Int32} (hkm : k.toInt = 0) (Q : cm_O → Prop) (hk : ∀ (w : cm_W) (lk : Option cm_V), (∀ j, j < 16 → w.2 202 j = w1.2 189 j) → (∀ c j, w.1 c j = w1.1 c j) ∧ (∀ c j, ¬ (c = 202 ∧ 0 ≤ j ∧ j < 16) → w.2 c j = w1.2 c j) → cm_X (cm_C 1) 112 80 [some (.inr (.inr (some 184))), some (.inl k), lk] [] w Q) : ∀ (d i : Nat) (z : Int32) (w : cm_W), d + i = 16 → z.toInt = (i : Int) → (∀ j, j < i → w.2 202 j = w1.2 189 j) → (∀ c j, w.1 c j = w1.1 c j) ∧ (∀ c j, ¬ (c = 202 ∧ 0 ≤ j ∧ j < 16) → w.2 c j = w1.2 c j) → cm_X (cm_C 1) 112 51 [some (.inr (.inr (some 184))), some (.inl k), some (.inl z)] [] w Q := by
  intro d
  induction d with
  | zero =>
    intro i z w hi hz hI hF
    refine wk_iload_n xd_8b267383 rfl ?_
    refine wk_bipush xd_d458cc57 ?_
    refine wk_icmp xd_a3c669e6 (t := 80) rfl (fun h54_0 => ?_) (fun h54_0 => ?_)
    · have h54_0 := aw_ge_t (a := ((i : Int) : Int)) (b := (16 : Int)) hz (show (((Int8.ofInt 16).toInt32)).toInt = 16 from by decide) h54_0
      have e9 : i = 16 := by omega
      subst e9
      exact hk w _ hI hF
    · have h54_0 := aw_ge_f (a := ((i : Int) : Int)) (b := (16 : Int)) hz (show (((Int8.ofInt 16).toInt32)).toInt = 16 from by decide) h54_0
      exfalso
      omega
  | succ d ih =>
    intro i z w hi hz hI hF
    refine wk_iload_n xd_8b267383 rfl ?_
    refine wk_bipush xd_d458cc57 ?_
    refine wk_icmp xd_a3c669e6 (t := 80) rfl (fun h54_1 => ?_) (fun h54_1 => ?_)
    · have h54_1 := aw_ge_t (a := ((i : Int) : Int)) (b := (16 : Int)) hz (show (((Int8.ofInt 16).toInt32)).toInt = 16 from by decide) h54_1
      exfalso
      omega
    · have h54_1 := aw_ge_f (a := ((i : Int) : Int)) (b := (16 : Int)) hz (show (((Int8.ofInt 16).toInt32)).toInt = 16 from by decide) h54_1
      refine wk_aload_n xd_462f81f4 rfl ?_
      refine wk_getR xf_3f7652c4 xd_9a2d1d16 ?_
      refine wk_bipush xd_faa35c42 ?_
      refine wk_iload_n xd_790e7392 rfl ?_
      refine aw_imul (a := (16 : Int)) (b := (0 : Int)) (e := (0 : Int)) xd_2cceb97d (show (((Int8.ofInt 16).toInt32)).toInt = 16 from by decide) hkm (by omega) (by omega) (by omega) (fun v3_ p3_ => ?_)
      refine wk_iload_n xd_d3647b38 rfl ?_
      refine aw_iadd (a := (0 : Int)) (b := ((i : Int) : Int)) (e := ((i : Int) : Int)) xd_16402275 p3_ hz (by omega) (by omega) (by omega) (fun v4_ p4_ => ?_)
      refine wk_aload_n xd_1e3128dc rfl ?_
      refine wk_getR xf_521296cb xd_934499e0 ?_
      refine wk_iload_n xd_521dbf8c rfl ?_
      refine aw_laload (i := i) xf_69b9f963 hz (by omega) (by omega) xd_17f5e80c ?_
      refine aw_lastore (i := i) xf_f15e6417 p4_ (by omega) (by omega) xd_5119a324 ?_
      refine aw_iinc (a := ((i : Int) : Int)) (b := (1 : Int)) (e := ((i : Int) + 1 : Int)) xd_65e6e696 (by rw [xm_6358a306]; rfl) rfl rfl hz (show ((Int32.ofInt 1)).toInt = 1 from by decide) (by omega) (by omega) (by omega) (fun v5_ p5_ => ?_)
      refine wk_goto xd_7dd2acd2 (t := 51) rfl ?_
      refine ih (i + 1) _ _ (by omega) (by omega) ?_ ?_
      · intro j hj
        by_cases e : j = i
        · rw [e, tx_u2_self]
          exact hF.2 189 i (by omega)
        · rw [tx_u2_ne (by omega)]
          exact hI j (by omega)
      · exact ⟨hF.1, fun c j hc => (tx_u2_ne (by omega)).trans (hF.2 c j hc)⟩
theorem ri_image0 {w : cm_W} {k : Int32} (hk : k.toInt = 0) : ∃ x w', cm_C 2 112 [.inr (.inr (some 184)), .inl k] w (some (.inl x), w') ∧ (∀ j, j < 79 → w'.1 201 j = w.1 186 j) ∧ (∀ j, j < 16 → w'.2 202 j = w.2 189 j) ∧ (∀ c i, ¬ (c = 184 ∧ i = 0) → ¬ (c = 201 ∧ 0 ≤ i ∧ i < 301) → ¬ (c = 203 ∧ i = 0) → w'.1 c i = w.1 c i) ∧ (∀ c i, ¬ (c = 202 ∧ 0 ≤ i ∧ i < 16) → w'.2 c i = w.2 c i) := by
  have h : ∃ o, cm_C (1 + 1) 112 [.inr (.inr (some 184)), .inl k] w o ∧ (fun o : cm_O => ∃ x w', o = (some (.inl x), w') ∧ (∀ j, j < 79 → w'.1 201 j = w.1 186 j) ∧ (∀ j, j < 16 → w'.2 202 j = w.2 189 j) ∧ (∀ c i, ¬ (c = 184 ∧ i = 0) → ¬ (c = 201 ∧ 0 ≤ i ∧ i < 301) → ¬ (c = 203 ∧ i = 0) → w'.1 c i = w.1 c i) ∧ (∀ c i, ¬ (c = 202 ∧ 0 ≤ i ∧ i < 16) → w'.2 c i = w.2 c i)) o := by
    refine wk_entry (by rw [xm_6358a306]; exact Nat.le_of_ble_eq_true rfl) ?_
    rw [show cm_ent 112 [.inr (.inr (some 184)), .inl k] = [some (.inr (.inr (some 184))), some (.inl k), none] from by unfold cm_ent; rw [xm_6358a306]; rfl]
    refine wk_aload_n xd_433dbfa4 rfl ?_
    refine wk_iconst xd_bb4f9481 ?_
    refine wk_putI xf_9221ebe5 (fun ci => wk_fitI ci) xd_c4d4869e ?_
    refine wk_iload_n xd_bf710e3e rfl ?_
    refine wk_iconst xd_de96aac1 ?_
    refine wk_iconst xd_f4dee7b1 ?_
    obtain ⟨xi, hCi, hxi⟩ := jie_ok (w := (cm_u1 w 184 0 (Int32.ofInt 0))) (v := k) (a := (Int32.ofInt 0)) (b := (Int32.ofInt 1))
    rw [(show ((Int32.ofInt 0)).toInt = 0 from by decide), (show ((Int32.ofInt 1)).toInt = 1 from by decide)] at hxi
    have hxi : xi.toInt = 1 := by
      rcases hxi with ⟨_, _, e⟩ | ⟨e, _⟩
      · rw [e]; decide
      · exfalso; omega
    refine wk_call (kd := 1) (i := 182) xd_73ebc502 rfl (wk_cal (as := [.inl k, .inl (Int32.ofInt 0), .inl (Int32.ofInt 1)]) (t := []) xl_43f0f29f rfl xn_adc58d92 xc_a9508f83 rfl rfl rfl rfl) (cm_C_mono (by omega) hCi) ?_
    refine wk_if xd_e709d34b (t := 16) rfl (fun _ => ?_) (fun h => absurd (aw_ne_f hxi hb_z h) (by omega))
    refine wk_iconst xd_a97a76d5 ?_
    refine wk_istore_n xd_9b9a0849 (by rw [xm_6358a306]; rfl) rfl ?_
    refine mi_s0 (cm_u1 w 184 0 (Int32.ofInt 0)) hk _ (fun wa lka haI haF => ?_) 301 0 _ _ rfl (by decide) (fun j hj => absurd hj (Nat.not_lt_zero j)) ⟨fun _ _ _ => rfl, fun _ _ => rfl⟩
    refine wk_iconst xd_eecf25d2 ?_
    refine wk_istore_n xd_513f75c5 (by rw [xm_6358a306]; rfl) rfl ?_
    refine mi_n0 wa hk _ (fun wb lkb hbI hbF => ?_) 16 0 _ _ rfl (by decide) (fun j hj => absurd hj (Nat.not_lt_zero j)) ⟨fun _ _ => rfl, fun _ _ _ => rfl⟩
    refine wk_aload_n xd_0ab8de9c rfl ?_
    refine wk_getR xf_385f8bf3 xd_ccad798a ?_
    refine wk_iload_n xd_6d8785d2 rfl ?_
    refine wk_iconst xd_36a85bd7 ?_
    refine aw_bastore (i := 0) xf_3716dfb6 hk (by omega) (by omega) xd_52d61747 rfl ?_
    refine wk_iconst xd_18f89257 ?_
    refine wk_ireturn xd_05056f32 xr_719b2703 wk_z1 ⟨_, _, rfl, fun j hj => ?_, fun j hj => ?_, fun c i h1 h2 h3 => ?_, fun c i h1 => ?_⟩
    · rw [hs_u1_ne (by omega), hbF.1, haI j (by omega), hs_u1_ne (by omega)]
    · show wb.2 202 j = _
      rw [hbI j hj, haF.2]
      rfl
    · rw [hs_u1_ne (by omega), hbF.1, haF.1 c i h2, hs_u1_ne (by omega)]
    · show wb.2 c i = _
      rw [hbF.2 c i h1, haF.2]
      rfl
  obtain ⟨o, hC, x, w', rfl, a⟩ := h
  exact ⟨x, w', hC, a⟩
theorem mr_s0 (w1 : cm_W) {k : Int32} (hkm : k.toInt = 0) (Q : cm_O → Prop) (hk : ∀ (w : cm_W) (lk : Option cm_V), (∀ j, j < 301 → w.1 186 j = w1.1 201 j) → (∀ c j, c ≠ 186 → w.1 c j = w1.1 c j) ∧ (∀ c j, w.2 c j = w1.2 c j) → cm_X (cm_C 1) 138 58 [some (.inr (.inr (some 184))), some (.inl k), lk] [] w Q) : ∀ (d i : Nat) (z : Int32) (w : cm_W), d + i = 301 → z.toInt = (i : Int) → (∀ j, j < i → w.1 186 j = w1.1 201 j) → (∀ c j, c ≠ 186 → w.1 c j = w1.1 c j) ∧ (∀ c j, w.2 c j = w1.2 c j) → cm_X (cm_C 1) 138 27 [some (.inr (.inr (some 184))), some (.inl k), some (.inl z)] [] w Q := by
  intro d
  induction d with
  | zero =>
    intro i z w hi hz hI hF
    refine wk_iload_n xd_4b052cbc rfl ?_
    refine wk_sipush xd_af940999 ?_
    refine wk_icmp xd_be918101 (t := 58) rfl (fun h31_0 => ?_) (fun h31_0 => ?_)
    · have h31_0 := aw_ge_t (a := ((i : Int) : Int)) (b := (301 : Int)) hz (show (((Int16.ofInt 301).toInt32)).toInt = 301 from by decide) h31_0
      have e9 : i = 301 := by omega
      subst e9
      exact hk w _ hI hF
    · have h31_0 := aw_ge_f (a := ((i : Int) : Int)) (b := (301 : Int)) hz (show (((Int16.ofInt 301).toInt32)).toInt = 301 from by decide) h31_0
      exfalso
      omega
  | succ d ih =>
    intro i z w hi hz hI hF
    refine wk_iload_n xd_4b052cbc rfl ?_
    refine wk_sipush xd_af940999 ?_
    refine wk_icmp xd_be918101 (t := 58) rfl (fun h31_1 => ?_) (fun h31_1 => ?_)
    · have h31_1 := aw_ge_t (a := ((i : Int) : Int)) (b := (301 : Int)) hz (show (((Int16.ofInt 301).toInt32)).toInt = 301 from by decide) h31_1
      exfalso
      omega
    · have h31_1 := aw_ge_f (a := ((i : Int) : Int)) (b := (301 : Int)) hz (show (((Int16.ofInt 301).toInt32)).toInt = 301 from by decide) h31_1
      refine wk_aload_n xd_9c06f0ab rfl ?_
      refine wk_getR xf_51bc010c xd_21e761a9 ?_
      refine wk_iload_n xd_bc209213 rfl ?_
      refine wk_aload_n xd_0790f8ca rfl ?_
      refine wk_getR xf_89bc19cd xd_38559679 ?_
      refine wk_sipush xd_4e5cf0a9 ?_
      refine wk_iload_n xd_27ebeee8 rfl ?_
      refine aw_imul (a := (301 : Int)) (b := (0 : Int)) (e := (0 : Int)) xd_c8795e87 (show (((Int16.ofInt 301).toInt32)).toInt = 301 from by decide) hkm (by omega) (by omega) (by omega) (fun v3_ p3_ => ?_)
      refine wk_iload_n xd_8d38a564 rfl ?_
      refine aw_iadd (a := (0 : Int)) (b := ((i : Int) : Int)) (e := ((i : Int) : Int)) xd_ee0ebc85 p3_ hz (by omega) (by omega) (by omega) (fun v4_ p4_ => ?_)
      refine aw_iaload (i := i) xf_e2f87daf p4_ (by omega) (by omega) xd_44868255 ?_
      refine aw_iastore (i := i) xf_31d67ad9 hz (by omega) (by omega) xd_43fd391e ?_
      refine aw_iinc (a := ((i : Int) : Int)) (b := (1 : Int)) (e := ((i : Int) + 1 : Int)) xd_67fa3fae (by rw [xm_64201aac]; rfl) rfl rfl hz (show ((Int32.ofInt 1)).toInt = 1 from by decide) (by omega) (by omega) (by omega) (fun v5_ p5_ => ?_)
      refine wk_goto xd_c64e876a (t := 27) rfl ?_
      refine ih (i + 1) _ _ (by omega) (by omega) ?_ ?_
      · intro j hj
        by_cases e : j = i
        · rw [e, hs_u1_self]
          exact hF.1 201 i (by omega)
        · rw [hs_u1_ne (by omega)]
          exact hI j (by omega)
      · exact ⟨fun c j hc => (hs_u1_ne (by omega)).trans (hF.1 c j hc), hF.2⟩
theorem mr_n0 (w1 : cm_W) {k : Int32} (hkm : k.toInt = 0) (Q : cm_O → Prop) (hk : ∀ (w : cm_W) (lk : Option cm_V), (∀ j, j < 16 → w.2 189 j = w1.2 202 j) → (∀ c j, w.1 c j = w1.1 c j) ∧ (∀ c j, ¬ (c = 189 ∧ j < 16) → w.2 c j = w1.2 c j) → cm_X (cm_C 1) 138 89 [some (.inr (.inr (some 184))), some (.inl k), lk] [] w Q) : ∀ (d i : Nat) (z : Int32) (w : cm_W), d + i = 16 → z.toInt = (i : Int) → (∀ j, j < i → w.2 189 j = w1.2 202 j) → (∀ c j, w.1 c j = w1.1 c j) ∧ (∀ c j, ¬ (c = 189 ∧ j < 16) → w.2 c j = w1.2 c j) → cm_X (cm_C 1) 138 60 [some (.inr (.inr (some 184))), some (.inl k), some (.inl z)] [] w Q := by
  intro d
  induction d with
  | zero =>
    intro i z w hi hz hI hF
    refine wk_iload_n xd_54ba2a4d rfl ?_
    refine wk_bipush xd_e6524670 ?_
    refine wk_icmp xd_b4f3e97e (t := 89) rfl (fun h63_0 => ?_) (fun h63_0 => ?_)
    · have h63_0 := aw_ge_t (a := ((i : Int) : Int)) (b := (16 : Int)) hz (show (((Int8.ofInt 16).toInt32)).toInt = 16 from by decide) h63_0
      have e9 : i = 16 := by omega
      subst e9
      exact hk w _ hI hF
    · have h63_0 := aw_ge_f (a := ((i : Int) : Int)) (b := (16 : Int)) hz (show (((Int8.ofInt 16).toInt32)).toInt = 16 from by decide) h63_0
      exfalso
      omega
  | succ d ih =>
    intro i z w hi hz hI hF
    refine wk_iload_n xd_54ba2a4d rfl ?_
    refine wk_bipush xd_e6524670 ?_
    refine wk_icmp xd_b4f3e97e (t := 89) rfl (fun h63_1 => ?_) (fun h63_1 => ?_)
    · have h63_1 := aw_ge_t (a := ((i : Int) : Int)) (b := (16 : Int)) hz (show (((Int8.ofInt 16).toInt32)).toInt = 16 from by decide) h63_1
      exfalso
      omega
    · have h63_1 := aw_ge_f (a := ((i : Int) : Int)) (b := (16 : Int)) hz (show (((Int8.ofInt 16).toInt32)).toInt = 16 from by decide) h63_1
      refine wk_aload_n xd_99b3d83a rfl ?_
      refine wk_getR xf_4ee38cf9 xd_610d4705 ?_
      refine wk_iload_n xd_d59f4f6a rfl ?_
      refine wk_aload_n xd_6e2f25b3 rfl ?_
      refine wk_getR xf_f7bdf25e xd_23185269 ?_
      refine wk_bipush xd_672b82c4 ?_
      refine wk_iload_n xd_e486ad14 rfl ?_
      refine aw_imul (a := (16 : Int)) (b := (0 : Int)) (e := (0 : Int)) xd_9d507c46 (show (((Int8.ofInt 16).toInt32)).toInt = 16 from by decide) hkm (by omega) (by omega) (by omega) (fun v3_ p3_ => ?_)
      refine wk_iload_n xd_4e55e698 rfl ?_
      refine aw_iadd (a := (0 : Int)) (b := ((i : Int) : Int)) (e := ((i : Int) : Int)) xd_f6c4b40f p3_ hz (by omega) (by omega) (by omega) (fun v4_ p4_ => ?_)
      refine aw_laload (i := i) xf_f15e6417 p4_ (by omega) (by omega) xd_6f19fc04 ?_
      refine aw_lastore (i := i) xf_69b9f963 hz (by omega) (by omega) xd_bb7ec67f ?_
      refine aw_iinc (a := ((i : Int) : Int)) (b := (1 : Int)) (e := ((i : Int) + 1 : Int)) xd_eb44530f (by rw [xm_64201aac]; rfl) rfl rfl hz (show ((Int32.ofInt 1)).toInt = 1 from by decide) (by omega) (by omega) (by omega) (fun v5_ p5_ => ?_)
      refine wk_goto xd_d6670670 (t := 60) rfl ?_
      refine ih (i + 1) _ _ (by omega) (by omega) ?_ ?_
      · intro j hj
        by_cases e : j = i
        · rw [e, tx_u2_self]
          exact hF.2 202 i (by omega)
        · rw [tx_u2_ne (by omega)]
          exact hI j (by omega)
      · exact ⟨hF.1, fun c j hc => (tx_u2_ne (by omega)).trans (hF.2 c j hc)⟩
theorem ri_restore0 {w : cm_W} {k : Int32} (hk : k.toInt = 0) (hkept : (w.1 203 0).toInt ≠ 0) : ∃ x w', cm_C 2 138 [.inr (.inr (some 184)), .inl k] w (some (.inl x), w') ∧ (∀ j, j < 79 → w'.1 186 j = w.1 201 j) ∧ (∀ j, j < 16 → w'.2 189 j = w.2 202 j) ∧ (∀ c i, ¬ (c = 184 ∧ (i = 0 ∨ i = 23)) → c ≠ 186 → w'.1 c i = w.1 c i) ∧ (∀ c i, ¬ (c = 189 ∧ i < 16) → w'.2 c i = w.2 c i) := by
  have h : ∃ o, cm_C (1 + 1) 138 [.inr (.inr (some 184)), .inl k] w o ∧ (fun o : cm_O => ∃ x w', o = (some (.inl x), w') ∧ (∀ j, j < 79 → w'.1 186 j = w.1 201 j) ∧ (∀ j, j < 16 → w'.2 189 j = w.2 202 j) ∧ (∀ c i, ¬ (c = 184 ∧ (i = 0 ∨ i = 23)) → c ≠ 186 → w'.1 c i = w.1 c i) ∧ (∀ c i, ¬ (c = 189 ∧ i < 16) → w'.2 c i = w.2 c i)) o := by
    refine wk_entry (by rw [xm_64201aac]; exact Nat.le_of_ble_eq_true rfl) ?_
    rw [show cm_ent 138 [.inr (.inr (some 184)), .inl k] = [some (.inr (.inr (some 184))), some (.inl k), none] from by unfold cm_ent; rw [xm_64201aac]; rfl]
    refine wk_aload_n xd_de46eff5 rfl ?_
    refine wk_iconst xd_12686a04 ?_
    refine wk_putI xf_f410289b (fun ci => wk_fitI ci) xd_d8259cac ?_
    refine wk_iload_n xd_220a5e6f rfl ?_
    refine wk_iconst xd_77b15444 ?_
    refine wk_iconst xd_5df91934 ?_
    obtain ⟨xi, hCi, hxi⟩ := jie_ok (w := (cm_u1 w 184 0 (Int32.ofInt 0))) (v := k) (a := (Int32.ofInt 0)) (b := (Int32.ofInt 1))
    rw [(show ((Int32.ofInt 0)).toInt = 0 from by decide), (show ((Int32.ofInt 1)).toInt = 1 from by decide)] at hxi
    have hxi : xi.toInt = 1 := by
      rcases hxi with ⟨_, _, e⟩ | ⟨e, _⟩
      · rw [e]; decide
      · exfalso; omega
    refine wk_call (kd := 1) (i := 182) xd_3befc751 rfl (wk_cal (as := [.inl k, .inl (Int32.ofInt 0), .inl (Int32.ofInt 1)]) (t := []) xl_b1daf6d3 rfl xn_adc58d92 xc_a9508f83 rfl rfl rfl rfl) (cm_C_mono (by omega) hCi) ?_
    refine wk_if xd_f912eea6 (t := 23) rfl (fun h => absurd (aw_eq_t hxi hb_z h) (by omega)) (fun _ => ?_)
    refine wk_aload_n xd_453d3ca4 rfl ?_
    refine wk_getR xf_f0942b69 xd_953609a0 ?_
    refine wk_iload_n xd_22bb24cc rfl ?_
    refine aw_baload (i := 0) xf_3716dfb6 hk (by omega) (by omega) xd_562390ed rfl ?_
    refine wk_if xd_eef851ac (t := 25) rfl (fun h20_1 => ?_) (fun h20_1 => ?_)
    · have h20_1 := aw_ne_t (a := ((w.1 203 0).toInt : Int)) (b := (0 : Int)) rfl hb_z h20_1
      refine wk_iconst xd_7b9cb2f9 ?_
      refine wk_istore_n xd_e7997ba7 (by rw [xm_64201aac]; rfl) rfl ?_
      refine mr_s0 (cm_u1 w 184 0 (Int32.ofInt 0)) hk _ (fun wa lka haI haF => ?_) 301 0 _ _ rfl (by decide) (fun j hj => absurd hj (Nat.not_lt_zero j)) ⟨fun _ _ _ => rfl, fun _ _ => rfl⟩
      refine wk_iconst xd_ffeffb97 ?_
      refine wk_istore_n xd_cadc8cc6 (by rw [xm_64201aac]; rfl) rfl ?_
      refine mr_n0 wa hk _ (fun wb lkb hbI hbF => ?_) 16 0 _ _ rfl (by decide) (fun j hj => absurd hj (Nat.not_lt_zero j)) ⟨fun _ _ => rfl, fun _ _ _ => rfl⟩
      refine wk_aload_n xd_8d836d5c rfl ?_
      refine wk_iconst xd_46493f22 ?_
      refine wk_putI xf_b31930b5 (fun ci => wk_fitI ci) xd_5a501bbb ?_
      refine wk_iconst xd_27888592 ?_
      refine wk_ireturn xd_13db7b24 xr_466393d9 wk_z1 ⟨_, _, rfl, fun j hj => ?_, fun j hj => ?_, fun c i h1 h2 => ?_, fun c i h1 => ?_⟩
      · rw [hs_u1_ne (by omega), hbF.1, haI j (by omega), hs_u1_ne (by omega)]
      · show wb.2 189 j = _
        rw [hbI j hj, haF.2]
        rfl
      · rw [hs_u1_ne (by omega), hbF.1, haF.1 c i h2, hs_u1_ne (by omega)]
      · show wb.2 c i = _
        rw [hbF.2 c i h1, haF.2]
        rfl
    · have h20_1 := aw_ne_f (a := ((w.1 203 0).toInt : Int)) (b := (0 : Int)) rfl hb_z h20_1
      exfalso
      omega
  obtain ⟨o, hC, x, w', rfl, a⟩ := h
  exact ⟨x, w', hC, a⟩
theorem ri_restoreE0 {w : cm_W} {k : Int32} (hk : k.toInt = 0) (hkept : (w.1 203 0).toInt = 0) : cm_C 2 138 [.inr (.inr (some 184)), .inl k] w (some (.inl (Int32.ofInt 0)), (cm_u1 w 184 0 (Int32.ofInt 0))) := by
  have h : ∃ o, cm_C (1 + 1) 138 [.inr (.inr (some 184)), .inl k] w o ∧ (fun o : cm_O => o = (some (.inl (Int32.ofInt 0)), (cm_u1 w 184 0 (Int32.ofInt 0)))) o := by
    refine wk_entry (by rw [xm_64201aac]; exact Nat.le_of_ble_eq_true rfl) ?_
    rw [show cm_ent 138 [.inr (.inr (some 184)), .inl k] = [some (.inr (.inr (some 184))), some (.inl k), none] from by unfold cm_ent; rw [xm_64201aac]; rfl]
    refine wk_aload_n xd_de46eff5 rfl ?_
    refine wk_iconst xd_12686a04 ?_
    refine wk_putI xf_f410289b (fun ci => wk_fitI ci) xd_d8259cac ?_
    refine wk_iload_n xd_220a5e6f rfl ?_
    refine wk_iconst xd_77b15444 ?_
    refine wk_iconst xd_5df91934 ?_
    obtain ⟨xi, hCi, hxi⟩ := jie_ok (w := (cm_u1 w 184 0 (Int32.ofInt 0))) (v := k) (a := (Int32.ofInt 0)) (b := (Int32.ofInt 1))
    rw [(show ((Int32.ofInt 0)).toInt = 0 from by decide), (show ((Int32.ofInt 1)).toInt = 1 from by decide)] at hxi
    have hxi : xi.toInt = 1 := by
      rcases hxi with ⟨_, _, e⟩ | ⟨e, _⟩
      · rw [e]; decide
      · exfalso; omega
    refine wk_call (kd := 1) (i := 182) xd_3befc751 rfl (wk_cal (as := [.inl k, .inl (Int32.ofInt 0), .inl (Int32.ofInt 1)]) (t := []) xl_b1daf6d3 rfl xn_adc58d92 xc_a9508f83 rfl rfl rfl rfl) (cm_C_mono (by omega) hCi) ?_
    refine wk_if xd_f912eea6 (t := 23) rfl (fun h => absurd (aw_eq_t hxi hb_z h) (by omega)) (fun _ => ?_)
    refine wk_aload_n xd_453d3ca4 rfl ?_
    refine wk_getR xf_f0942b69 xd_953609a0 ?_
    refine wk_iload_n xd_22bb24cc rfl ?_
    refine aw_baload (i := 0) xf_3716dfb6 hk (by omega) (by omega) xd_562390ed rfl ?_
    refine wk_if xd_eef851ac (t := 25) rfl (fun h20_1 => ?_) (fun h20_1 => ?_)
    · have h20_1 := aw_ne_t (a := ((w.1 203 0).toInt : Int)) (b := (0 : Int)) rfl hb_z h20_1
      exfalso
      omega
    · have h20_1 := aw_ne_f (a := ((w.1 203 0).toInt : Int)) (b := (0 : Int)) rfl hb_z h20_1
      refine wk_iconst xd_096de879 ?_
      exact wk_ireturn xd_0c3a73fa xr_466393d9 wk_z0 rfl
  obtain ⟨o, hC, rfl⟩ := h
  exact hC
theorem mi_s1 (w1 : cm_W) {k : Int32} (hkm : k.toInt = 1) (Q : cm_O → Prop) (hk : ∀ (w : cm_W) (lk : Option cm_V), (∀ j, j < 301 → w.1 201 (301 + j) = w1.1 186 j) → (∀ c j, ¬ (c = 201 ∧ 301 ≤ j ∧ j < 602) → w.1 c j = w1.1 c j) ∧ (∀ c j, w.2 c j = w1.2 c j) → cm_X (cm_C 1) 112 49 [some (.inr (.inr (some 184))), some (.inl k), lk] [] w Q) : ∀ (d i : Nat) (z : Int32) (w : cm_W), d + i = 301 → z.toInt = (i : Int) → (∀ j, j < i → w.1 201 (301 + j) = w1.1 186 j) → (∀ c j, ¬ (c = 201 ∧ 301 ≤ j ∧ j < 602) → w.1 c j = w1.1 c j) ∧ (∀ c j, w.2 c j = w1.2 c j) → cm_X (cm_C 1) 112 18 [some (.inr (.inr (some 184))), some (.inl k), some (.inl z)] [] w Q := by
  intro d
  induction d with
  | zero =>
    intro i z w hi hz hI hF
    refine wk_iload_n xd_79ea442e rfl ?_
    refine wk_sipush xd_d3977a77 ?_
    refine wk_icmp xd_697c47a5 (t := 49) rfl (fun h22_0 => ?_) (fun h22_0 => ?_)
    · have h22_0 := aw_ge_t (a := ((i : Int) : Int)) (b := (301 : Int)) hz (show (((Int16.ofInt 301).toInt32)).toInt = 301 from by decide) h22_0
      have e9 : i = 301 := by omega
      subst e9
      exact hk w _ hI hF
    · have h22_0 := aw_ge_f (a := ((i : Int) : Int)) (b := (301 : Int)) hz (show (((Int16.ofInt 301).toInt32)).toInt = 301 from by decide) h22_0
      exfalso
      omega
  | succ d ih =>
    intro i z w hi hz hI hF
    refine wk_iload_n xd_79ea442e rfl ?_
    refine wk_sipush xd_d3977a77 ?_
    refine wk_icmp xd_697c47a5 (t := 49) rfl (fun h22_1 => ?_) (fun h22_1 => ?_)
    · have h22_1 := aw_ge_t (a := ((i : Int) : Int)) (b := (301 : Int)) hz (show (((Int16.ofInt 301).toInt32)).toInt = 301 from by decide) h22_1
      exfalso
      omega
    · have h22_1 := aw_ge_f (a := ((i : Int) : Int)) (b := (301 : Int)) hz (show (((Int16.ofInt 301).toInt32)).toInt = 301 from by decide) h22_1
      refine wk_aload_n xd_9aa1656a rfl ?_
      refine wk_getR xf_4177b957 xd_7c429694 ?_
      refine wk_sipush xd_e67acc24 ?_
      refine wk_iload_n xd_0a5e623e rfl ?_
      refine aw_imul (a := (301 : Int)) (b := (1 : Int)) (e := (301 : Int)) xd_f36a3ea3 (show (((Int16.ofInt 301).toInt32)).toInt = 301 from by decide) hkm (by omega) (by omega) (by omega) (fun v3_ p3_ => ?_)
      refine wk_iload_n xd_a0346a94 rfl ?_
      refine aw_iadd (a := (301 : Int)) (b := ((i : Int) : Int)) (e := ((i : Int) + 301 : Int)) xd_c24c72ad p3_ hz (by omega) (by omega) (by omega) (fun v4_ p4_ => ?_)
      refine wk_aload_n xd_6d613970 rfl ?_
      refine wk_getR xf_4d4d1b3e xd_a193f60e ?_
      refine wk_iload_n xd_9170fc70 rfl ?_
      refine aw_iaload (i := i) xf_31d67ad9 hz (by omega) (by omega) xd_256bec61 ?_
      refine aw_iastore (i := (301 + i)) xf_e2f87daf p4_ (by omega) (by omega) xd_86ec21b8 ?_
      refine aw_iinc (a := ((i : Int) : Int)) (b := (1 : Int)) (e := ((i : Int) + 1 : Int)) xd_76dae1eb (by rw [xm_6358a306]; rfl) rfl rfl hz (show ((Int32.ofInt 1)).toInt = 1 from by decide) (by omega) (by omega) (by omega) (fun v5_ p5_ => ?_)
      refine wk_goto xd_f3101ed6 (t := 18) rfl ?_
      refine ih (i + 1) _ _ (by omega) (by omega) ?_ ?_
      · intro j hj
        by_cases e : j = i
        · rw [e, hs_u1_self]
          exact hF.1 186 i (by omega)
        · rw [hs_u1_ne (by omega)]
          exact hI j (by omega)
      · exact ⟨fun c j hc => (hs_u1_ne (by omega)).trans (hF.1 c j hc), hF.2⟩
theorem mi_n1 (w1 : cm_W) {k : Int32} (hkm : k.toInt = 1) (Q : cm_O → Prop) (hk : ∀ (w : cm_W) (lk : Option cm_V), (∀ j, j < 16 → w.2 202 (16 + j) = w1.2 189 j) → (∀ c j, w.1 c j = w1.1 c j) ∧ (∀ c j, ¬ (c = 202 ∧ 16 ≤ j ∧ j < 32) → w.2 c j = w1.2 c j) → cm_X (cm_C 1) 112 80 [some (.inr (.inr (some 184))), some (.inl k), lk] [] w Q) : ∀ (d i : Nat) (z : Int32) (w : cm_W), d + i = 16 → z.toInt = (i : Int) → (∀ j, j < i → w.2 202 (16 + j) = w1.2 189 j) → (∀ c j, w.1 c j = w1.1 c j) ∧ (∀ c j, ¬ (c = 202 ∧ 16 ≤ j ∧ j < 32) → w.2 c j = w1.2 c j) → cm_X (cm_C 1) 112 51 [some (.inr (.inr (some 184))), some (.inl k), some (.inl z)] [] w Q := by
  intro d
  induction d with
  | zero =>
    intro i z w hi hz hI hF
    refine wk_iload_n xd_8b267383 rfl ?_
    refine wk_bipush xd_d458cc57 ?_
    refine wk_icmp xd_a3c669e6 (t := 80) rfl (fun h54_0 => ?_) (fun h54_0 => ?_)
    · have h54_0 := aw_ge_t (a := ((i : Int) : Int)) (b := (16 : Int)) hz (show (((Int8.ofInt 16).toInt32)).toInt = 16 from by decide) h54_0
      have e9 : i = 16 := by omega
      subst e9
      exact hk w _ hI hF
    · have h54_0 := aw_ge_f (a := ((i : Int) : Int)) (b := (16 : Int)) hz (show (((Int8.ofInt 16).toInt32)).toInt = 16 from by decide) h54_0
      exfalso
      omega
  | succ d ih =>
    intro i z w hi hz hI hF
    refine wk_iload_n xd_8b267383 rfl ?_
    refine wk_bipush xd_d458cc57 ?_
    refine wk_icmp xd_a3c669e6 (t := 80) rfl (fun h54_1 => ?_) (fun h54_1 => ?_)
    · have h54_1 := aw_ge_t (a := ((i : Int) : Int)) (b := (16 : Int)) hz (show (((Int8.ofInt 16).toInt32)).toInt = 16 from by decide) h54_1
      exfalso
      omega
    · have h54_1 := aw_ge_f (a := ((i : Int) : Int)) (b := (16 : Int)) hz (show (((Int8.ofInt 16).toInt32)).toInt = 16 from by decide) h54_1
      refine wk_aload_n xd_462f81f4 rfl ?_
      refine wk_getR xf_3f7652c4 xd_9a2d1d16 ?_
      refine wk_bipush xd_faa35c42 ?_
      refine wk_iload_n xd_790e7392 rfl ?_
      refine aw_imul (a := (16 : Int)) (b := (1 : Int)) (e := (16 : Int)) xd_2cceb97d (show (((Int8.ofInt 16).toInt32)).toInt = 16 from by decide) hkm (by omega) (by omega) (by omega) (fun v3_ p3_ => ?_)
      refine wk_iload_n xd_d3647b38 rfl ?_
      refine aw_iadd (a := (16 : Int)) (b := ((i : Int) : Int)) (e := ((i : Int) + 16 : Int)) xd_16402275 p3_ hz (by omega) (by omega) (by omega) (fun v4_ p4_ => ?_)
      refine wk_aload_n xd_1e3128dc rfl ?_
      refine wk_getR xf_521296cb xd_934499e0 ?_
      refine wk_iload_n xd_521dbf8c rfl ?_
      refine aw_laload (i := i) xf_69b9f963 hz (by omega) (by omega) xd_17f5e80c ?_
      refine aw_lastore (i := (16 + i)) xf_f15e6417 p4_ (by omega) (by omega) xd_5119a324 ?_
      refine aw_iinc (a := ((i : Int) : Int)) (b := (1 : Int)) (e := ((i : Int) + 1 : Int)) xd_65e6e696 (by rw [xm_6358a306]; rfl) rfl rfl hz (show ((Int32.ofInt 1)).toInt = 1 from by decide) (by omega) (by omega) (by omega) (fun v5_ p5_ => ?_)
      refine wk_goto xd_7dd2acd2 (t := 51) rfl ?_
      refine ih (i + 1) _ _ (by omega) (by omega) ?_ ?_
      · intro j hj
        by_cases e : j = i
        · rw [e, tx_u2_self]
          exact hF.2 189 i (by omega)
        · rw [tx_u2_ne (by omega)]
          exact hI j (by omega)
      · exact ⟨hF.1, fun c j hc => (tx_u2_ne (by omega)).trans (hF.2 c j hc)⟩
theorem ri_image1 {w : cm_W} {k : Int32} (hk : k.toInt = 1) : ∃ x w', cm_C 2 112 [.inr (.inr (some 184)), .inl k] w (some (.inl x), w') ∧ (∀ j, j < 79 → w'.1 201 (301 + j) = w.1 186 j) ∧ (∀ j, j < 16 → w'.2 202 (16 + j) = w.2 189 j) ∧ (∀ c i, ¬ (c = 184 ∧ i = 0) → ¬ (c = 201 ∧ 301 ≤ i ∧ i < 602) → ¬ (c = 203 ∧ i = 1) → w'.1 c i = w.1 c i) ∧ (∀ c i, ¬ (c = 202 ∧ 16 ≤ i ∧ i < 32) → w'.2 c i = w.2 c i) := by
  have h : ∃ o, cm_C (1 + 1) 112 [.inr (.inr (some 184)), .inl k] w o ∧ (fun o : cm_O => ∃ x w', o = (some (.inl x), w') ∧ (∀ j, j < 79 → w'.1 201 (301 + j) = w.1 186 j) ∧ (∀ j, j < 16 → w'.2 202 (16 + j) = w.2 189 j) ∧ (∀ c i, ¬ (c = 184 ∧ i = 0) → ¬ (c = 201 ∧ 301 ≤ i ∧ i < 602) → ¬ (c = 203 ∧ i = 1) → w'.1 c i = w.1 c i) ∧ (∀ c i, ¬ (c = 202 ∧ 16 ≤ i ∧ i < 32) → w'.2 c i = w.2 c i)) o := by
    refine wk_entry (by rw [xm_6358a306]; exact Nat.le_of_ble_eq_true rfl) ?_
    rw [show cm_ent 112 [.inr (.inr (some 184)), .inl k] = [some (.inr (.inr (some 184))), some (.inl k), none] from by unfold cm_ent; rw [xm_6358a306]; rfl]
    refine wk_aload_n xd_433dbfa4 rfl ?_
    refine wk_iconst xd_bb4f9481 ?_
    refine wk_putI xf_9221ebe5 (fun ci => wk_fitI ci) xd_c4d4869e ?_
    refine wk_iload_n xd_bf710e3e rfl ?_
    refine wk_iconst xd_de96aac1 ?_
    refine wk_iconst xd_f4dee7b1 ?_
    obtain ⟨xi, hCi, hxi⟩ := jie_ok (w := (cm_u1 w 184 0 (Int32.ofInt 0))) (v := k) (a := (Int32.ofInt 0)) (b := (Int32.ofInt 1))
    rw [(show ((Int32.ofInt 0)).toInt = 0 from by decide), (show ((Int32.ofInt 1)).toInt = 1 from by decide)] at hxi
    have hxi : xi.toInt = 1 := by
      rcases hxi with ⟨_, _, e⟩ | ⟨e, _⟩
      · rw [e]; decide
      · exfalso; omega
    refine wk_call (kd := 1) (i := 182) xd_73ebc502 rfl (wk_cal (as := [.inl k, .inl (Int32.ofInt 0), .inl (Int32.ofInt 1)]) (t := []) xl_43f0f29f rfl xn_adc58d92 xc_a9508f83 rfl rfl rfl rfl) (cm_C_mono (by omega) hCi) ?_
    refine wk_if xd_e709d34b (t := 16) rfl (fun _ => ?_) (fun h => absurd (aw_ne_f hxi hb_z h) (by omega))
    refine wk_iconst xd_a97a76d5 ?_
    refine wk_istore_n xd_9b9a0849 (by rw [xm_6358a306]; rfl) rfl ?_
    refine mi_s1 (cm_u1 w 184 0 (Int32.ofInt 0)) hk _ (fun wa lka haI haF => ?_) 301 0 _ _ rfl (by decide) (fun j hj => absurd hj (Nat.not_lt_zero j)) ⟨fun _ _ _ => rfl, fun _ _ => rfl⟩
    refine wk_iconst xd_eecf25d2 ?_
    refine wk_istore_n xd_513f75c5 (by rw [xm_6358a306]; rfl) rfl ?_
    refine mi_n1 wa hk _ (fun wb lkb hbI hbF => ?_) 16 0 _ _ rfl (by decide) (fun j hj => absurd hj (Nat.not_lt_zero j)) ⟨fun _ _ => rfl, fun _ _ _ => rfl⟩
    refine wk_aload_n xd_0ab8de9c rfl ?_
    refine wk_getR xf_385f8bf3 xd_ccad798a ?_
    refine wk_iload_n xd_6d8785d2 rfl ?_
    refine wk_iconst xd_36a85bd7 ?_
    refine aw_bastore (i := 1) xf_3716dfb6 hk (by omega) (by omega) xd_52d61747 rfl ?_
    refine wk_iconst xd_18f89257 ?_
    refine wk_ireturn xd_05056f32 xr_719b2703 wk_z1 ⟨_, _, rfl, fun j hj => ?_, fun j hj => ?_, fun c i h1 h2 h3 => ?_, fun c i h1 => ?_⟩
    · rw [hs_u1_ne (by omega), hbF.1, haI j (by omega), hs_u1_ne (by omega)]
    · show wb.2 202 (16 + j) = _
      rw [hbI j hj, haF.2]
      rfl
    · rw [hs_u1_ne (by omega), hbF.1, haF.1 c i h2, hs_u1_ne (by omega)]
    · show wb.2 c i = _
      rw [hbF.2 c i h1, haF.2]
      rfl
  obtain ⟨o, hC, x, w', rfl, a⟩ := h
  exact ⟨x, w', hC, a⟩
theorem mr_s1 (w1 : cm_W) {k : Int32} (hkm : k.toInt = 1) (Q : cm_O → Prop) (hk : ∀ (w : cm_W) (lk : Option cm_V), (∀ j, j < 301 → w.1 186 j = w1.1 201 (301 + j)) → (∀ c j, c ≠ 186 → w.1 c j = w1.1 c j) ∧ (∀ c j, w.2 c j = w1.2 c j) → cm_X (cm_C 1) 138 58 [some (.inr (.inr (some 184))), some (.inl k), lk] [] w Q) : ∀ (d i : Nat) (z : Int32) (w : cm_W), d + i = 301 → z.toInt = (i : Int) → (∀ j, j < i → w.1 186 j = w1.1 201 (301 + j)) → (∀ c j, c ≠ 186 → w.1 c j = w1.1 c j) ∧ (∀ c j, w.2 c j = w1.2 c j) → cm_X (cm_C 1) 138 27 [some (.inr (.inr (some 184))), some (.inl k), some (.inl z)] [] w Q := by
  intro d
  induction d with
  | zero =>
    intro i z w hi hz hI hF
    refine wk_iload_n xd_4b052cbc rfl ?_
    refine wk_sipush xd_af940999 ?_
    refine wk_icmp xd_be918101 (t := 58) rfl (fun h31_0 => ?_) (fun h31_0 => ?_)
    · have h31_0 := aw_ge_t (a := ((i : Int) : Int)) (b := (301 : Int)) hz (show (((Int16.ofInt 301).toInt32)).toInt = 301 from by decide) h31_0
      have e9 : i = 301 := by omega
      subst e9
      exact hk w _ hI hF
    · have h31_0 := aw_ge_f (a := ((i : Int) : Int)) (b := (301 : Int)) hz (show (((Int16.ofInt 301).toInt32)).toInt = 301 from by decide) h31_0
      exfalso
      omega
  | succ d ih =>
    intro i z w hi hz hI hF
    refine wk_iload_n xd_4b052cbc rfl ?_
    refine wk_sipush xd_af940999 ?_
    refine wk_icmp xd_be918101 (t := 58) rfl (fun h31_1 => ?_) (fun h31_1 => ?_)
    · have h31_1 := aw_ge_t (a := ((i : Int) : Int)) (b := (301 : Int)) hz (show (((Int16.ofInt 301).toInt32)).toInt = 301 from by decide) h31_1
      exfalso
      omega
    · have h31_1 := aw_ge_f (a := ((i : Int) : Int)) (b := (301 : Int)) hz (show (((Int16.ofInt 301).toInt32)).toInt = 301 from by decide) h31_1
      refine wk_aload_n xd_9c06f0ab rfl ?_
      refine wk_getR xf_51bc010c xd_21e761a9 ?_
      refine wk_iload_n xd_bc209213 rfl ?_
      refine wk_aload_n xd_0790f8ca rfl ?_
      refine wk_getR xf_89bc19cd xd_38559679 ?_
      refine wk_sipush xd_4e5cf0a9 ?_
      refine wk_iload_n xd_27ebeee8 rfl ?_
      refine aw_imul (a := (301 : Int)) (b := (1 : Int)) (e := (301 : Int)) xd_c8795e87 (show (((Int16.ofInt 301).toInt32)).toInt = 301 from by decide) hkm (by omega) (by omega) (by omega) (fun v3_ p3_ => ?_)
      refine wk_iload_n xd_8d38a564 rfl ?_
      refine aw_iadd (a := (301 : Int)) (b := ((i : Int) : Int)) (e := ((i : Int) + 301 : Int)) xd_ee0ebc85 p3_ hz (by omega) (by omega) (by omega) (fun v4_ p4_ => ?_)
      refine aw_iaload (i := (301 + i)) xf_e2f87daf p4_ (by omega) (by omega) xd_44868255 ?_
      refine aw_iastore (i := i) xf_31d67ad9 hz (by omega) (by omega) xd_43fd391e ?_
      refine aw_iinc (a := ((i : Int) : Int)) (b := (1 : Int)) (e := ((i : Int) + 1 : Int)) xd_67fa3fae (by rw [xm_64201aac]; rfl) rfl rfl hz (show ((Int32.ofInt 1)).toInt = 1 from by decide) (by omega) (by omega) (by omega) (fun v5_ p5_ => ?_)
      refine wk_goto xd_c64e876a (t := 27) rfl ?_
      refine ih (i + 1) _ _ (by omega) (by omega) ?_ ?_
      · intro j hj
        by_cases e : j = i
        · rw [e, hs_u1_self]
          exact hF.1 201 (301 + i) (by omega)
        · rw [hs_u1_ne (by omega)]
          exact hI j (by omega)
      · exact ⟨fun c j hc => (hs_u1_ne (by omega)).trans (hF.1 c j hc), hF.2⟩
theorem mr_n1 (w1 : cm_W) {k : Int32} (hkm : k.toInt = 1) (Q : cm_O → Prop) (hk : ∀ (w : cm_W) (lk : Option cm_V), (∀ j, j < 16 → w.2 189 j = w1.2 202 (16 + j)) → (∀ c j, w.1 c j = w1.1 c j) ∧ (∀ c j, ¬ (c = 189 ∧ j < 16) → w.2 c j = w1.2 c j) → cm_X (cm_C 1) 138 89 [some (.inr (.inr (some 184))), some (.inl k), lk] [] w Q) : ∀ (d i : Nat) (z : Int32) (w : cm_W), d + i = 16 → z.toInt = (i : Int) → (∀ j, j < i → w.2 189 j = w1.2 202 (16 + j)) → (∀ c j, w.1 c j = w1.1 c j) ∧ (∀ c j, ¬ (c = 189 ∧ j < 16) → w.2 c j = w1.2 c j) → cm_X (cm_C 1) 138 60 [some (.inr (.inr (some 184))), some (.inl k), some (.inl z)] [] w Q := by
  intro d
  induction d with
  | zero =>
    intro i z w hi hz hI hF
    refine wk_iload_n xd_54ba2a4d rfl ?_
    refine wk_bipush xd_e6524670 ?_
    refine wk_icmp xd_b4f3e97e (t := 89) rfl (fun h63_0 => ?_) (fun h63_0 => ?_)
    · have h63_0 := aw_ge_t (a := ((i : Int) : Int)) (b := (16 : Int)) hz (show (((Int8.ofInt 16).toInt32)).toInt = 16 from by decide) h63_0
      have e9 : i = 16 := by omega
      subst e9
      exact hk w _ hI hF
    · have h63_0 := aw_ge_f (a := ((i : Int) : Int)) (b := (16 : Int)) hz (show (((Int8.ofInt 16).toInt32)).toInt = 16 from by decide) h63_0
      exfalso
      omega
  | succ d ih =>
    intro i z w hi hz hI hF
    refine wk_iload_n xd_54ba2a4d rfl ?_
    refine wk_bipush xd_e6524670 ?_
    refine wk_icmp xd_b4f3e97e (t := 89) rfl (fun h63_1 => ?_) (fun h63_1 => ?_)
    · have h63_1 := aw_ge_t (a := ((i : Int) : Int)) (b := (16 : Int)) hz (show (((Int8.ofInt 16).toInt32)).toInt = 16 from by decide) h63_1
      exfalso
      omega
    · have h63_1 := aw_ge_f (a := ((i : Int) : Int)) (b := (16 : Int)) hz (show (((Int8.ofInt 16).toInt32)).toInt = 16 from by decide) h63_1
      refine wk_aload_n xd_99b3d83a rfl ?_
      refine wk_getR xf_4ee38cf9 xd_610d4705 ?_
      refine wk_iload_n xd_d59f4f6a rfl ?_
      refine wk_aload_n xd_6e2f25b3 rfl ?_
      refine wk_getR xf_f7bdf25e xd_23185269 ?_
      refine wk_bipush xd_672b82c4 ?_
      refine wk_iload_n xd_e486ad14 rfl ?_
      refine aw_imul (a := (16 : Int)) (b := (1 : Int)) (e := (16 : Int)) xd_9d507c46 (show (((Int8.ofInt 16).toInt32)).toInt = 16 from by decide) hkm (by omega) (by omega) (by omega) (fun v3_ p3_ => ?_)
      refine wk_iload_n xd_4e55e698 rfl ?_
      refine aw_iadd (a := (16 : Int)) (b := ((i : Int) : Int)) (e := ((i : Int) + 16 : Int)) xd_f6c4b40f p3_ hz (by omega) (by omega) (by omega) (fun v4_ p4_ => ?_)
      refine aw_laload (i := (16 + i)) xf_f15e6417 p4_ (by omega) (by omega) xd_6f19fc04 ?_
      refine aw_lastore (i := i) xf_69b9f963 hz (by omega) (by omega) xd_bb7ec67f ?_
      refine aw_iinc (a := ((i : Int) : Int)) (b := (1 : Int)) (e := ((i : Int) + 1 : Int)) xd_eb44530f (by rw [xm_64201aac]; rfl) rfl rfl hz (show ((Int32.ofInt 1)).toInt = 1 from by decide) (by omega) (by omega) (by omega) (fun v5_ p5_ => ?_)
      refine wk_goto xd_d6670670 (t := 60) rfl ?_
      refine ih (i + 1) _ _ (by omega) (by omega) ?_ ?_
      · intro j hj
        by_cases e : j = i
        · rw [e, tx_u2_self]
          exact hF.2 202 (16 + i) (by omega)
        · rw [tx_u2_ne (by omega)]
          exact hI j (by omega)
      · exact ⟨hF.1, fun c j hc => (tx_u2_ne (by omega)).trans (hF.2 c j hc)⟩
theorem ri_restore1 {w : cm_W} {k : Int32} (hk : k.toInt = 1) (hkept : (w.1 203 1).toInt ≠ 0) : ∃ x w', cm_C 2 138 [.inr (.inr (some 184)), .inl k] w (some (.inl x), w') ∧ (∀ j, j < 79 → w'.1 186 j = w.1 201 (301 + j)) ∧ (∀ j, j < 16 → w'.2 189 j = w.2 202 (16 + j)) ∧ (∀ c i, ¬ (c = 184 ∧ (i = 0 ∨ i = 23)) → c ≠ 186 → w'.1 c i = w.1 c i) ∧ (∀ c i, ¬ (c = 189 ∧ i < 16) → w'.2 c i = w.2 c i) := by
  have h : ∃ o, cm_C (1 + 1) 138 [.inr (.inr (some 184)), .inl k] w o ∧ (fun o : cm_O => ∃ x w', o = (some (.inl x), w') ∧ (∀ j, j < 79 → w'.1 186 j = w.1 201 (301 + j)) ∧ (∀ j, j < 16 → w'.2 189 j = w.2 202 (16 + j)) ∧ (∀ c i, ¬ (c = 184 ∧ (i = 0 ∨ i = 23)) → c ≠ 186 → w'.1 c i = w.1 c i) ∧ (∀ c i, ¬ (c = 189 ∧ i < 16) → w'.2 c i = w.2 c i)) o := by
    refine wk_entry (by rw [xm_64201aac]; exact Nat.le_of_ble_eq_true rfl) ?_
    rw [show cm_ent 138 [.inr (.inr (some 184)), .inl k] = [some (.inr (.inr (some 184))), some (.inl k), none] from by unfold cm_ent; rw [xm_64201aac]; rfl]
    refine wk_aload_n xd_de46eff5 rfl ?_
    refine wk_iconst xd_12686a04 ?_
    refine wk_putI xf_f410289b (fun ci => wk_fitI ci) xd_d8259cac ?_
    refine wk_iload_n xd_220a5e6f rfl ?_
    refine wk_iconst xd_77b15444 ?_
    refine wk_iconst xd_5df91934 ?_
    obtain ⟨xi, hCi, hxi⟩ := jie_ok (w := (cm_u1 w 184 0 (Int32.ofInt 0))) (v := k) (a := (Int32.ofInt 0)) (b := (Int32.ofInt 1))
    rw [(show ((Int32.ofInt 0)).toInt = 0 from by decide), (show ((Int32.ofInt 1)).toInt = 1 from by decide)] at hxi
    have hxi : xi.toInt = 1 := by
      rcases hxi with ⟨_, _, e⟩ | ⟨e, _⟩
      · rw [e]; decide
      · exfalso; omega
    refine wk_call (kd := 1) (i := 182) xd_3befc751 rfl (wk_cal (as := [.inl k, .inl (Int32.ofInt 0), .inl (Int32.ofInt 1)]) (t := []) xl_b1daf6d3 rfl xn_adc58d92 xc_a9508f83 rfl rfl rfl rfl) (cm_C_mono (by omega) hCi) ?_
    refine wk_if xd_f912eea6 (t := 23) rfl (fun h => absurd (aw_eq_t hxi hb_z h) (by omega)) (fun _ => ?_)
    refine wk_aload_n xd_453d3ca4 rfl ?_
    refine wk_getR xf_f0942b69 xd_953609a0 ?_
    refine wk_iload_n xd_22bb24cc rfl ?_
    refine aw_baload (i := 1) xf_3716dfb6 hk (by omega) (by omega) xd_562390ed rfl ?_
    refine wk_if xd_eef851ac (t := 25) rfl (fun h20_1 => ?_) (fun h20_1 => ?_)
    · have h20_1 := aw_ne_t (a := ((w.1 203 1).toInt : Int)) (b := (0 : Int)) rfl hb_z h20_1
      refine wk_iconst xd_7b9cb2f9 ?_
      refine wk_istore_n xd_e7997ba7 (by rw [xm_64201aac]; rfl) rfl ?_
      refine mr_s1 (cm_u1 w 184 0 (Int32.ofInt 0)) hk _ (fun wa lka haI haF => ?_) 301 0 _ _ rfl (by decide) (fun j hj => absurd hj (Nat.not_lt_zero j)) ⟨fun _ _ _ => rfl, fun _ _ => rfl⟩
      refine wk_iconst xd_ffeffb97 ?_
      refine wk_istore_n xd_cadc8cc6 (by rw [xm_64201aac]; rfl) rfl ?_
      refine mr_n1 wa hk _ (fun wb lkb hbI hbF => ?_) 16 0 _ _ rfl (by decide) (fun j hj => absurd hj (Nat.not_lt_zero j)) ⟨fun _ _ => rfl, fun _ _ _ => rfl⟩
      refine wk_aload_n xd_8d836d5c rfl ?_
      refine wk_iconst xd_46493f22 ?_
      refine wk_putI xf_b31930b5 (fun ci => wk_fitI ci) xd_5a501bbb ?_
      refine wk_iconst xd_27888592 ?_
      refine wk_ireturn xd_13db7b24 xr_466393d9 wk_z1 ⟨_, _, rfl, fun j hj => ?_, fun j hj => ?_, fun c i h1 h2 => ?_, fun c i h1 => ?_⟩
      · rw [hs_u1_ne (by omega), hbF.1, haI j (by omega), hs_u1_ne (by omega)]
      · show wb.2 189 j = _
        rw [hbI j hj, haF.2]
        rfl
      · rw [hs_u1_ne (by omega), hbF.1, haF.1 c i h2, hs_u1_ne (by omega)]
      · show wb.2 c i = _
        rw [hbF.2 c i h1, haF.2]
        rfl
    · have h20_1 := aw_ne_f (a := ((w.1 203 1).toInt : Int)) (b := (0 : Int)) rfl hb_z h20_1
      exfalso
      omega
  obtain ⟨o, hC, x, w', rfl, a⟩ := h
  exact ⟨x, w', hC, a⟩
theorem ri_restoreE1 {w : cm_W} {k : Int32} (hk : k.toInt = 1) (hkept : (w.1 203 1).toInt = 0) : cm_C 2 138 [.inr (.inr (some 184)), .inl k] w (some (.inl (Int32.ofInt 0)), (cm_u1 w 184 0 (Int32.ofInt 0))) := by
  have h : ∃ o, cm_C (1 + 1) 138 [.inr (.inr (some 184)), .inl k] w o ∧ (fun o : cm_O => o = (some (.inl (Int32.ofInt 0)), (cm_u1 w 184 0 (Int32.ofInt 0)))) o := by
    refine wk_entry (by rw [xm_64201aac]; exact Nat.le_of_ble_eq_true rfl) ?_
    rw [show cm_ent 138 [.inr (.inr (some 184)), .inl k] = [some (.inr (.inr (some 184))), some (.inl k), none] from by unfold cm_ent; rw [xm_64201aac]; rfl]
    refine wk_aload_n xd_de46eff5 rfl ?_
    refine wk_iconst xd_12686a04 ?_
    refine wk_putI xf_f410289b (fun ci => wk_fitI ci) xd_d8259cac ?_
    refine wk_iload_n xd_220a5e6f rfl ?_
    refine wk_iconst xd_77b15444 ?_
    refine wk_iconst xd_5df91934 ?_
    obtain ⟨xi, hCi, hxi⟩ := jie_ok (w := (cm_u1 w 184 0 (Int32.ofInt 0))) (v := k) (a := (Int32.ofInt 0)) (b := (Int32.ofInt 1))
    rw [(show ((Int32.ofInt 0)).toInt = 0 from by decide), (show ((Int32.ofInt 1)).toInt = 1 from by decide)] at hxi
    have hxi : xi.toInt = 1 := by
      rcases hxi with ⟨_, _, e⟩ | ⟨e, _⟩
      · rw [e]; decide
      · exfalso; omega
    refine wk_call (kd := 1) (i := 182) xd_3befc751 rfl (wk_cal (as := [.inl k, .inl (Int32.ofInt 0), .inl (Int32.ofInt 1)]) (t := []) xl_b1daf6d3 rfl xn_adc58d92 xc_a9508f83 rfl rfl rfl rfl) (cm_C_mono (by omega) hCi) ?_
    refine wk_if xd_f912eea6 (t := 23) rfl (fun h => absurd (aw_eq_t hxi hb_z h) (by omega)) (fun _ => ?_)
    refine wk_aload_n xd_453d3ca4 rfl ?_
    refine wk_getR xf_f0942b69 xd_953609a0 ?_
    refine wk_iload_n xd_22bb24cc rfl ?_
    refine aw_baload (i := 1) xf_3716dfb6 hk (by omega) (by omega) xd_562390ed rfl ?_
    refine wk_if xd_eef851ac (t := 25) rfl (fun h20_1 => ?_) (fun h20_1 => ?_)
    · have h20_1 := aw_ne_t (a := ((w.1 203 1).toInt : Int)) (b := (0 : Int)) rfl hb_z h20_1
      exfalso
      omega
    · have h20_1 := aw_ne_f (a := ((w.1 203 1).toInt : Int)) (b := (0 : Int)) rfl hb_z h20_1
      refine wk_iconst xd_096de879 ?_
      exact wk_ireturn xd_0c3a73fa xr_466393d9 wk_z0 rfl
  obtain ⟨o, hC, rfl⟩ := h
  exact hC
theorem ri_imageN {w : cm_W} {k : Int32} (hk : ¬ (0 ≤ k.toInt ∧ k.toInt ≤ 1)) : cm_C 2 112 [.inr (.inr (some 184)), .inl k] w (some (.inl (Int32.ofInt 0)), (cm_u1 w 184 0 (Int32.ofInt 0))) := by
  have h : ∃ o, cm_C (1 + 1) 112 [.inr (.inr (some 184)), .inl k] w o ∧ (fun o : cm_O => o = (some (.inl (Int32.ofInt 0)), (cm_u1 w 184 0 (Int32.ofInt 0)))) o := by
    refine wk_entry (by rw [xm_6358a306]; exact Nat.le_of_ble_eq_true rfl) ?_
    rw [show cm_ent 112 [.inr (.inr (some 184)), .inl k] = [some (.inr (.inr (some 184))), some (.inl k), none] from by unfold cm_ent; rw [xm_6358a306]; rfl]
    refine wk_aload_n xd_433dbfa4 rfl ?_
    refine wk_iconst xd_bb4f9481 ?_
    refine wk_putI xf_9221ebe5 (fun ci => wk_fitI ci) xd_c4d4869e ?_
    refine wk_iload_n xd_bf710e3e rfl ?_
    refine wk_iconst xd_de96aac1 ?_
    refine wk_iconst xd_f4dee7b1 ?_
    obtain ⟨xi, hCi, hxi⟩ := jie_ok (w := (cm_u1 w 184 0 (Int32.ofInt 0))) (v := k) (a := (Int32.ofInt 0)) (b := (Int32.ofInt 1))
    rw [(show ((Int32.ofInt 0)).toInt = 0 from by decide), (show ((Int32.ofInt 1)).toInt = 1 from by decide)] at hxi
    have hxi : xi.toInt = 0 := by
      rcases hxi with ⟨e1, e2, _⟩ | ⟨_, e⟩
      · exact absurd ⟨e1, e2⟩ hk
      · rw [e]; decide
    refine wk_call (kd := 1) (i := 182) xd_73ebc502 rfl (wk_cal (as := [.inl k, .inl (Int32.ofInt 0), .inl (Int32.ofInt 1)]) (t := []) xl_43f0f29f rfl xn_adc58d92 xc_a9508f83 rfl rfl rfl rfl) (cm_C_mono (by omega) hCi) ?_
    refine wk_if xd_e709d34b (t := 16) rfl (fun h => absurd (aw_ne_t hxi hb_z h) (by omega)) (fun _ => ?_)
    refine wk_iconst xd_872abf55 ?_
    exact wk_ireturn xd_03bfa3a1 xr_719b2703 wk_z0 rfl
  obtain ⟨o, hC, rfl⟩ := h
  exact hC
theorem ri_restoreN {w : cm_W} {k : Int32} (hk : ¬ (0 ≤ k.toInt ∧ k.toInt ≤ 1)) : cm_C 2 138 [.inr (.inr (some 184)), .inl k] w (some (.inl (Int32.ofInt 0)), (cm_u1 w 184 0 (Int32.ofInt 0))) := by
  have h : ∃ o, cm_C (1 + 1) 138 [.inr (.inr (some 184)), .inl k] w o ∧ (fun o : cm_O => o = (some (.inl (Int32.ofInt 0)), (cm_u1 w 184 0 (Int32.ofInt 0)))) o := by
    refine wk_entry (by rw [xm_64201aac]; exact Nat.le_of_ble_eq_true rfl) ?_
    rw [show cm_ent 138 [.inr (.inr (some 184)), .inl k] = [some (.inr (.inr (some 184))), some (.inl k), none] from by unfold cm_ent; rw [xm_64201aac]; rfl]
    refine wk_aload_n xd_de46eff5 rfl ?_
    refine wk_iconst xd_12686a04 ?_
    refine wk_putI xf_f410289b (fun ci => wk_fitI ci) xd_d8259cac ?_
    refine wk_iload_n xd_220a5e6f rfl ?_
    refine wk_iconst xd_77b15444 ?_
    refine wk_iconst xd_5df91934 ?_
    obtain ⟨xi, hCi, hxi⟩ := jie_ok (w := (cm_u1 w 184 0 (Int32.ofInt 0))) (v := k) (a := (Int32.ofInt 0)) (b := (Int32.ofInt 1))
    rw [(show ((Int32.ofInt 0)).toInt = 0 from by decide), (show ((Int32.ofInt 1)).toInt = 1 from by decide)] at hxi
    have hxi : xi.toInt = 0 := by
      rcases hxi with ⟨e1, e2, _⟩ | ⟨_, e⟩
      · exact absurd ⟨e1, e2⟩ hk
      · rw [e]; decide
    refine wk_call (kd := 1) (i := 182) xd_3befc751 rfl (wk_cal (as := [.inl k, .inl (Int32.ofInt 0), .inl (Int32.ofInt 1)]) (t := []) xl_b1daf6d3 rfl xn_adc58d92 xc_a9508f83 rfl rfl rfl rfl) (cm_C_mono (by omega) hCi) ?_
    refine wk_if xd_f912eea6 (t := 23) rfl (fun _ => ?_) (fun h => absurd (aw_eq_f hxi hb_z h) (by omega))
    refine wk_iconst xd_096de879 ?_
    exact wk_ireturn xd_0c3a73fa xr_466393d9 wk_z0 rfl
  obtain ⟨o, hC, rfl⟩ := h
  exact hC

/-! ## every public method, from every state that the law can reach (wip/p2/gen9w.py) -/
set_option maxRecDepth 100000 in
theorem xs_11_19eb1342 {w : cm_W} (hG : sv_w sg w) : ∃ x : Int32, cm_C 1 11 [.inr (.inr (some 0))] w (some (.inl x), w) ∧ (((-2147483648) ≤ x.toInt ∧ x.toInt ≤ 2147483647)) := by
  obtain ⟨r, w', hC, hG', hF, q, hq, hr, hp, hs⟩ := wk_use (d := 1) sm_11_19eb1342_ok (by decide) (as := [.inr (.inr (some 0))]) (w := w) ⟨rfl, trivial⟩ (fun f hf => by
    cases hf) hG
  have ew : w' = w := Prod.ext (funext fun k => funext fun i => (hF k i (fun ⟨r, z, _⟩ => by cases z)).1) (funext fun k => funext fun i => (hF k i (fun ⟨r, z, _⟩ => by cases z)).2)
  subst ew
  simp only [sm_11_19eb1342, List.mem_cons, List.not_mem_nil, or_false] at hq
  rcases hq with rfl
  · obtain ⟨x, rfl, hx⟩ := wk_int hr
    have hx := hb_in hx
    exact ⟨x, hC, ⟨by omega, by omega⟩⟩
set_option maxRecDepth 100000 in
theorem xs_14_96cac3f7 {a1 : Int32} {a2 : Int32} {w : cm_W} (hG : sv_w sg w) : ∃ x : Int32, cm_C 2 14 [.inr (.inr (some 0)), .inl a1, .inl a2] w (some (.inl x), w) ∧ ((x.toInt = (-1)) ∨ ((-2147483648) ≤ x.toInt ∧ x.toInt ≤ 2147483647 ∧ 0 ≤ a1.toInt ∧ a1.toInt ≤ 3 ∧ 0 ≤ a2.toInt ∧ a2.toInt ≤ 1)) := by
  obtain ⟨r, w', hC, hG', hF, q, hq, hr, hp, hs⟩ := wk_use (d := 2) sm_14_96cac3f7_ok (by decide) (as := [.inr (.inr (some 0)), .inl a1, .inl a2]) (w := w) ⟨rfl, sv_in_top _, sv_in_top _, trivial⟩ (fun f hf => by
    cases hf) hG
  have ew : w' = w := Prod.ext (funext fun k => funext fun i => (hF k i (fun ⟨r, z, _⟩ => by cases z)).1) (funext fun k => funext fun i => (hF k i (fun ⟨r, z, _⟩ => by cases z)).2)
  subst ew
  simp only [sm_14_96cac3f7, List.mem_cons, List.not_mem_nil, or_false] at hq
  rcases hq with rfl | rfl
  · obtain ⟨x, rfl, hx⟩ := wk_int hr
    have hx := hb_in hx
    exact ⟨x, hC, Or.inl (by omega)⟩
  · obtain ⟨x, rfl, hx⟩ := wk_int hr
    have hx := hb_in hx
    have ra1 := hb_in (lo := 2147483648) (hi := 2147483651) (x := a1) hp.2.1
    have ra2 := hb_in (lo := 2147483648) (hi := 2147483649) (x := a2) hp.2.2.1
    exact ⟨x, hC, Or.inr (⟨by omega, by omega, by omega, by omega, by omega, by omega⟩)⟩
set_option maxRecDepth 100000 in
theorem xs_28_96cac3f7 {a1 : Int32} {a2 : Int32} {w : cm_W} (hG : sv_w sg w) : ∃ x : Int32, cm_C 5 28 [.inr (.inr (some 0)), .inl a1, .inl a2] w (some (.inl x), w) ∧ ((x.toInt = (-1)) ∨ ((-2147483648) ≤ x.toInt ∧ x.toInt ≤ 2147483647 ∧ 0 ≤ a1.toInt ∧ a1.toInt ≤ 5 ∧ 0 ≤ a2.toInt ∧ a2.toInt ≤ 3)) := by
  obtain ⟨r, w', hC, hG', hF, q, hq, hr, hp, hs⟩ := wk_use (d := 5) sm_28_96cac3f7_ok (by decide) (as := [.inr (.inr (some 0)), .inl a1, .inl a2]) (w := w) ⟨rfl, sv_in_top _, sv_in_top _, trivial⟩ (fun f hf => by
    cases hf) hG
  have ew : w' = w := Prod.ext (funext fun k => funext fun i => (hF k i (fun ⟨r, z, _⟩ => by cases z)).1) (funext fun k => funext fun i => (hF k i (fun ⟨r, z, _⟩ => by cases z)).2)
  subst ew
  simp only [sm_28_96cac3f7, List.mem_cons, List.not_mem_nil, or_false] at hq
  rcases hq with rfl | rfl
  · obtain ⟨x, rfl, hx⟩ := wk_int hr
    have hx := hb_in hx
    exact ⟨x, hC, Or.inl (by omega)⟩
  · obtain ⟨x, rfl, hx⟩ := wk_int hr
    have hx := hb_in hx
    have ra1 := hb_in (lo := 2147483648) (hi := 2147483653) (x := a1) hp.2.1
    have ra2 := hb_in (lo := 2147483648) (hi := 2147483651) (x := a2) hp.2.2.1
    exact ⟨x, hC, Or.inr (⟨by omega, by omega, by omega, by omega, by omega, by omega⟩)⟩
set_option maxRecDepth 100000 in
theorem xs_30_ef2370ea {a1 : Int32} {w : cm_W} (hG : sv_w sg w) : ∃ x : Int32, cm_C 2 30 [.inr (.inr (some 0)), .inl a1] w (some (.inl x), w) ∧ (((-2147483648) ≤ x.toInt ∧ x.toInt ≤ 2147483647 ∧ 0 ≤ a1.toInt ∧ a1.toInt ≤ 7) ∨ (x.toInt = (-1))) := by
  obtain ⟨r, w', hC, hG', hF, q, hq, hr, hp, hs⟩ := wk_use (d := 2) sm_30_ef2370ea_ok (by decide) (as := [.inr (.inr (some 0)), .inl a1]) (w := w) ⟨rfl, sv_in_top _, trivial⟩ (fun f hf => by
    cases hf) hG
  have ew : w' = w := Prod.ext (funext fun k => funext fun i => (hF k i (fun ⟨r, z, _⟩ => by cases z)).1) (funext fun k => funext fun i => (hF k i (fun ⟨r, z, _⟩ => by cases z)).2)
  subst ew
  simp only [sm_30_ef2370ea, List.mem_cons, List.not_mem_nil, or_false] at hq
  rcases hq with rfl | rfl
  · obtain ⟨x, rfl, hx⟩ := wk_int hr
    have hx := hb_in hx
    have ra1 := hb_in (lo := 2147483648) (hi := 2147483655) (x := a1) hp.2.1
    exact ⟨x, hC, Or.inl ⟨by omega, by omega, by omega, by omega⟩⟩
  · obtain ⟨x, rfl, hx⟩ := wk_int hr
    have hx := hb_in hx
    exact ⟨x, hC, Or.inr ((by omega))⟩
set_option maxRecDepth 100000 in
theorem xs_32_ef2370ea {a1 : Int32} {w : cm_W} (hG : sv_w sg w) : ∃ x : Int32, cm_C 3 32 [.inr (.inr (some 0)), .inl a1] w (some (.inl x), w) ∧ ((x.toInt = (-1)) ∨ ((-2147483648) ≤ x.toInt ∧ x.toInt ≤ 2147483647 ∧ 0 ≤ a1.toInt ∧ a1.toInt ≤ 199)) := by
  obtain ⟨r, w', hC, hG', hF, q, hq, hr, hp, hs⟩ := wk_use (d := 3) sm_32_ef2370ea_ok (by decide) (as := [.inr (.inr (some 0)), .inl a1]) (w := w) ⟨rfl, sv_in_top _, trivial⟩ (fun f hf => by
    cases hf) hG
  have ew : w' = w := Prod.ext (funext fun k => funext fun i => (hF k i (fun ⟨r, z, _⟩ => by cases z)).1) (funext fun k => funext fun i => (hF k i (fun ⟨r, z, _⟩ => by cases z)).2)
  subst ew
  simp only [sm_32_ef2370ea, List.mem_cons, List.not_mem_nil, or_false] at hq
  rcases hq with rfl | rfl
  · obtain ⟨x, rfl, hx⟩ := wk_int hr
    have hx := hb_in hx
    exact ⟨x, hC, Or.inl (by omega)⟩
  · obtain ⟨x, rfl, hx⟩ := wk_int hr
    have hx := hb_in hx
    have ra1 := hb_in (lo := 2147483648) (hi := 2147483847) (x := a1) hp.2.1
    exact ⟨x, hC, Or.inr (⟨by omega, by omega, by omega, by omega⟩)⟩
set_option maxRecDepth 100000 in
theorem xs_6_19eb1342 {w : cm_W} (hG : sv_w sg w) : ∃ x : Int32, cm_C 3 6 [.inr (.inr (some 0))] w (some (.inl x), w) ∧ (((-2147483648) ≤ x.toInt ∧ x.toInt ≤ 2147483647)) := by
  obtain ⟨r, w', hC, hG', hF, q, hq, hr, hp, hs⟩ := wk_use (d := 3) sm_6_19eb1342_ok (by decide) (as := [.inr (.inr (some 0))]) (w := w) ⟨rfl, trivial⟩ (fun f hf => by
    cases hf) hG
  have ew : w' = w := Prod.ext (funext fun k => funext fun i => (hF k i (fun ⟨r, z, _⟩ => by cases z)).1) (funext fun k => funext fun i => (hF k i (fun ⟨r, z, _⟩ => by cases z)).2)
  subst ew
  simp only [sm_6_19eb1342, List.mem_cons, List.not_mem_nil, or_false] at hq
  rcases hq with rfl
  · obtain ⟨x, rfl, hx⟩ := wk_int hr
    have hx := hb_in hx
    exact ⟨x, hC, ⟨by omega, by omega⟩⟩
set_option maxRecDepth 100000 in
theorem xs_35_ef2370ea {a1 : Int32} {w : cm_W} (hG : sv_w sg w) : ∃ x : Int32, cm_C 2 35 [.inr (.inr (some 0)), .inl a1] w (some (.inl x), w) ∧ ((x.toInt = (-1)) ∨ ((-2147483648) ≤ x.toInt ∧ x.toInt ≤ 2147483647 ∧ 0 ≤ a1.toInt ∧ a1.toInt ≤ 5)) := by
  obtain ⟨r, w', hC, hG', hF, q, hq, hr, hp, hs⟩ := wk_use (d := 2) sm_35_ef2370ea_ok (by decide) (as := [.inr (.inr (some 0)), .inl a1]) (w := w) ⟨rfl, sv_in_top _, trivial⟩ (fun f hf => by
    cases hf) hG
  have ew : w' = w := Prod.ext (funext fun k => funext fun i => (hF k i (fun ⟨r, z, _⟩ => by cases z)).1) (funext fun k => funext fun i => (hF k i (fun ⟨r, z, _⟩ => by cases z)).2)
  subst ew
  simp only [sm_35_ef2370ea, List.mem_cons, List.not_mem_nil, or_false] at hq
  rcases hq with rfl | rfl
  · obtain ⟨x, rfl, hx⟩ := wk_int hr
    have hx := hb_in hx
    exact ⟨x, hC, Or.inl (by omega)⟩
  · obtain ⟨x, rfl, hx⟩ := wk_int hr
    have hx := hb_in hx
    have ra1 := hb_in (lo := 2147483648) (hi := 2147483653) (x := a1) hp.2.1
    exact ⟨x, hC, Or.inr (⟨by omega, by omega, by omega, by omega⟩)⟩
set_option maxRecDepth 100000 in
theorem xs_12_19eb1342 {w : cm_W} (hG : sv_w sg w) : ∃ x : Int32, cm_C 1 12 [.inr (.inr (some 0))] w (some (.inl x), w) ∧ (((-2147483648) ≤ x.toInt ∧ x.toInt ≤ 2147483647)) := by
  obtain ⟨r, w', hC, hG', hF, q, hq, hr, hp, hs⟩ := wk_use (d := 1) sm_12_19eb1342_ok (by decide) (as := [.inr (.inr (some 0))]) (w := w) ⟨rfl, trivial⟩ (fun f hf => by
    cases hf) hG
  have ew : w' = w := Prod.ext (funext fun k => funext fun i => (hF k i (fun ⟨r, z, _⟩ => by cases z)).1) (funext fun k => funext fun i => (hF k i (fun ⟨r, z, _⟩ => by cases z)).2)
  subst ew
  simp only [sm_12_19eb1342, List.mem_cons, List.not_mem_nil, or_false] at hq
  rcases hq with rfl
  · obtain ⟨x, rfl, hx⟩ := wk_int hr
    have hx := hb_in hx
    exact ⟨x, hC, ⟨by omega, by omega⟩⟩
set_option maxRecDepth 100000 in
theorem xs_42_19eb1342 {w : cm_W} (hG : sv_w sg w) : ∃ x : Int32, cm_C 1 42 [.inr (.inr (some 0))] w (some (.inl x), w) ∧ (((-2147483648) ≤ x.toInt ∧ x.toInt ≤ 2147483647)) := by
  obtain ⟨r, w', hC, hG', hF, q, hq, hr, hp, hs⟩ := wk_use (d := 1) sm_42_19eb1342_ok (by decide) (as := [.inr (.inr (some 0))]) (w := w) ⟨rfl, trivial⟩ (fun f hf => by
    cases hf) hG
  have ew : w' = w := Prod.ext (funext fun k => funext fun i => (hF k i (fun ⟨r, z, _⟩ => by cases z)).1) (funext fun k => funext fun i => (hF k i (fun ⟨r, z, _⟩ => by cases z)).2)
  subst ew
  simp only [sm_42_19eb1342, List.mem_cons, List.not_mem_nil, or_false] at hq
  rcases hq with rfl
  · obtain ⟨x, rfl, hx⟩ := wk_int hr
    have hx := hb_in hx
    exact ⟨x, hC, ⟨by omega, by omega⟩⟩
set_option maxRecDepth 100000 in
theorem xs_2_19eb1342 {w : cm_W} (hG : sv_w sg w) : ∃ x : Int32, cm_C 1 2 [.inr (.inr (some 0))] w (some (.inl x), w) ∧ (((-2147483648) ≤ x.toInt ∧ x.toInt ≤ 2147483647)) := by
  obtain ⟨r, w', hC, hG', hF, q, hq, hr, hp, hs⟩ := wk_use (d := 1) sm_2_19eb1342_ok (by decide) (as := [.inr (.inr (some 0))]) (w := w) ⟨rfl, trivial⟩ (fun f hf => by
    cases hf) hG
  have ew : w' = w := Prod.ext (funext fun k => funext fun i => (hF k i (fun ⟨r, z, _⟩ => by cases z)).1) (funext fun k => funext fun i => (hF k i (fun ⟨r, z, _⟩ => by cases z)).2)
  subst ew
  simp only [sm_2_19eb1342, List.mem_cons, List.not_mem_nil, or_false] at hq
  rcases hq with rfl
  · obtain ⟨x, rfl, hx⟩ := wk_int hr
    have hx := hb_in hx
    exact ⟨x, hC, ⟨by omega, by omega⟩⟩
set_option maxRecDepth 100000 in
theorem xs_45_96cac3f7 {a1 : Int32} {a2 : Int32} {w : cm_W} (hG : sv_w sg w) : ∃ x : Int32, ∃ w' : cm_W, cm_C 4 45 [.inr (.inr (some 0)), .inl a1, .inl a2] w (some (.inl x), w') ∧ sv_w sg w' ∧ (∀ k i, ¬ ((k = 40 ∧ 1 ≤ i ∧ i ≤ 3) ∨ (k = 41 ∧ 0 ≤ i ∧ i ≤ 15) ∨ (k = 42 ∧ 0 ≤ i ∧ i ≤ 15) ∨ (k = 43 ∧ 0 ≤ i ∧ i ≤ 15) ∨ (k = 44 ∧ 0 ≤ i ∧ i ≤ 15) ∨ (k = 45 ∧ 0 ≤ i ∧ i ≤ 15) ∨ (k = 46 ∧ 0 ≤ i ∧ i ≤ 15)) → w'.1 k i = w.1 k i ∧ w'.2 k i = w.2 k i) ∧ ((x.toInt = (-1)) ∨ ((-2147483648) ≤ x.toInt ∧ x.toInt ≤ 2147483647 ∧ 0 ≤ a1.toInt ∧ a1.toInt ≤ 5 ∧ 0 ≤ a2.toInt ∧ a2.toInt ≤ 5)) := by
  obtain ⟨r, w', hC, hG', hF, q, hq, hr, hp, hs⟩ := wk_use (d := 4) sm_45_96cac3f7_ok (by decide) (as := [.inr (.inr (some 0)), .inl a1, .inl a2]) (w := w) ⟨rfl, sv_in_top _, sv_in_top _, trivial⟩ (fun f hf => by
    cases hf) hG
  have hfr : ∀ k i, ¬ ((k = 40 ∧ 1 ≤ i ∧ i ≤ 3) ∨ (k = 41 ∧ 0 ≤ i ∧ i ≤ 15) ∨ (k = 42 ∧ 0 ≤ i ∧ i ≤ 15) ∨ (k = 43 ∧ 0 ≤ i ∧ i ≤ 15) ∨ (k = 44 ∧ 0 ≤ i ∧ i ≤ 15) ∨ (k = 45 ∧ 0 ≤ i ∧ i ≤ 15) ∨ (k = 46 ∧ 0 ≤ i ∧ i ≤ 15)) → w'.1 k i = w.1 k i ∧ w'.2 k i = w.2 k i := fun k i hki => hF k i (fun ⟨r, z, z1, z2, z3⟩ => by
    simp only [sm_45_96cac3f7, List.mem_cons, List.not_mem_nil, or_false] at z
    rcases z with rfl | rfl | rfl | rfl | rfl | rfl | rfl
    all_goals (simp only at z1 z2 z3; omega))
  simp only [sm_45_96cac3f7, List.mem_cons, List.not_mem_nil, or_false] at hq
  rcases hq with rfl | rfl
  · obtain ⟨x, rfl, hx⟩ := wk_int hr
    have hx := hb_in hx
    exact ⟨x, w', hC, hG', hfr, Or.inl (by omega)⟩
  · obtain ⟨x, rfl, hx⟩ := wk_int hr
    have hx := hb_in hx
    have ra1 := hb_in (lo := 2147483648) (hi := 2147483653) (x := a1) hp.2.1
    have ra2 := hb_in (lo := 2147483648) (hi := 2147483653) (x := a2) hp.2.2.1
    exact ⟨x, w', hC, hG', hfr, Or.inr (⟨by omega, by omega, by omega, by omega, by omega, by omega⟩)⟩
set_option maxRecDepth 100000 in
theorem xs_25_ef2370ea {a1 : Int32} {w : cm_W} (hG : sv_w sg w) : ∃ x : Int32, ∃ w' : cm_W, cm_C 4 25 [.inr (.inr (some 0)), .inl a1] w (some (.inl x), w') ∧ sv_w sg w' ∧ (∀ k i, ¬ ((k = 40 ∧ 1 ≤ i ∧ i ≤ 3) ∨ (k = 41 ∧ 0 ≤ i ∧ i ≤ 15) ∨ (k = 42 ∧ 0 ≤ i ∧ i ≤ 15) ∨ (k = 43 ∧ 0 ≤ i ∧ i ≤ 15) ∨ (k = 44 ∧ 0 ≤ i ∧ i ≤ 15) ∨ (k = 45 ∧ 0 ≤ i ∧ i ≤ 15) ∨ (k = 46 ∧ 0 ≤ i ∧ i ≤ 15)) → w'.1 k i = w.1 k i ∧ w'.2 k i = w.2 k i) ∧ ((x.toInt = (-1)) ∨ ((-2147483648) ≤ x.toInt ∧ x.toInt ≤ 2147483647 ∧ 0 ≤ a1.toInt ∧ a1.toInt ≤ 199)) := by
  obtain ⟨r, w', hC, hG', hF, q, hq, hr, hp, hs⟩ := wk_use (d := 4) sm_25_ef2370ea_ok (by decide) (as := [.inr (.inr (some 0)), .inl a1]) (w := w) ⟨rfl, sv_in_top _, trivial⟩ (fun f hf => by
    cases hf) hG
  have hfr : ∀ k i, ¬ ((k = 40 ∧ 1 ≤ i ∧ i ≤ 3) ∨ (k = 41 ∧ 0 ≤ i ∧ i ≤ 15) ∨ (k = 42 ∧ 0 ≤ i ∧ i ≤ 15) ∨ (k = 43 ∧ 0 ≤ i ∧ i ≤ 15) ∨ (k = 44 ∧ 0 ≤ i ∧ i ≤ 15) ∨ (k = 45 ∧ 0 ≤ i ∧ i ≤ 15) ∨ (k = 46 ∧ 0 ≤ i ∧ i ≤ 15)) → w'.1 k i = w.1 k i ∧ w'.2 k i = w.2 k i := fun k i hki => hF k i (fun ⟨r, z, z1, z2, z3⟩ => by
    simp only [sm_25_ef2370ea, List.mem_cons, List.not_mem_nil, or_false] at z
    rcases z with rfl | rfl | rfl | rfl | rfl | rfl | rfl
    all_goals (simp only at z1 z2 z3; omega))
  simp only [sm_25_ef2370ea, List.mem_cons, List.not_mem_nil, or_false] at hq
  rcases hq with rfl | rfl
  · obtain ⟨x, rfl, hx⟩ := wk_int hr
    have hx := hb_in hx
    exact ⟨x, w', hC, hG', hfr, Or.inl (by omega)⟩
  · obtain ⟨x, rfl, hx⟩ := wk_int hr
    have hx := hb_in hx
    have ra1 := hb_in (lo := 2147483648) (hi := 2147483847) (x := a1) hp.2.1
    exact ⟨x, w', hC, hG', hfr, Or.inr (⟨by omega, by omega, by omega, by omega⟩)⟩
set_option maxRecDepth 100000 in
theorem xs_40_96cac3f7 {a1 : Int32} {a2 : Int32} {w : cm_W} (hG : sv_w sg w) : ∃ x : Int32, cm_C 3 40 [.inr (.inr (some 0)), .inl a1, .inl a2] w (some (.inl x), w) ∧ ((x.toInt = (-1)) ∨ ((-2147483648) ≤ x.toInt ∧ x.toInt ≤ 2147483647 ∧ 0 ≤ a1.toInt ∧ a1.toInt ≤ 999 ∧ 0 ≤ a2.toInt ∧ a2.toInt ≤ 5)) := by
  obtain ⟨r, w', hC, hG', hF, q, hq, hr, hp, hs⟩ := wk_use (d := 3) sm_40_96cac3f7_ok (by decide) (as := [.inr (.inr (some 0)), .inl a1, .inl a2]) (w := w) ⟨rfl, sv_in_top _, sv_in_top _, trivial⟩ (fun f hf => by
    cases hf) hG
  have ew : w' = w := Prod.ext (funext fun k => funext fun i => (hF k i (fun ⟨r, z, _⟩ => by cases z)).1) (funext fun k => funext fun i => (hF k i (fun ⟨r, z, _⟩ => by cases z)).2)
  subst ew
  simp only [sm_40_96cac3f7, List.mem_cons, List.not_mem_nil, or_false] at hq
  rcases hq with rfl | rfl
  · obtain ⟨x, rfl, hx⟩ := wk_int hr
    have hx := hb_in hx
    exact ⟨x, hC, Or.inl (by omega)⟩
  · obtain ⟨x, rfl, hx⟩ := wk_int hr
    have hx := hb_in hx
    have ra1 := hb_in (lo := 2147483648) (hi := 2147484647) (x := a1) hp.2.1
    have ra2 := hb_in (lo := 2147483648) (hi := 2147483653) (x := a2) hp.2.2.1
    exact ⟨x, hC, Or.inr (⟨by omega, by omega, by omega, by omega, by omega, by omega⟩)⟩
set_option maxRecDepth 100000 in
theorem xs_5_ef2370ea {a1 : Int32} {w : cm_W} (hG : sv_w sg w) : ∃ x : Int32, cm_C 3 5 [.inr (.inr (some 0)), .inl a1] w (some (.inl x), w) ∧ ((x.toInt = (-1)) ∨ (0 ≤ x.toInt ∧ x.toInt ≤ 63)) := by
  obtain ⟨r, w', hC, hG', hF, q, hq, hr, hp, hs⟩ := wk_use (d := 3) sm_5_ef2370ea_ok (by decide) (as := [.inr (.inr (some 0)), .inl a1]) (w := w) ⟨rfl, sv_in_top _, trivial⟩ (fun f hf => by
    cases hf) hG
  have ew : w' = w := Prod.ext (funext fun k => funext fun i => (hF k i (fun ⟨r, z, _⟩ => by cases z)).1) (funext fun k => funext fun i => (hF k i (fun ⟨r, z, _⟩ => by cases z)).2)
  subst ew
  simp only [sm_5_ef2370ea, List.mem_cons, List.not_mem_nil, or_false] at hq
  rcases hq with rfl | rfl
  · obtain ⟨x, rfl, hx⟩ := wk_int hr
    have hx := hb_in hx
    exact ⟨x, hC, Or.inl (by omega)⟩
  · obtain ⟨x, rfl, hx⟩ := wk_int hr
    have hx := hb_in hx
    exact ⟨x, hC, Or.inr (⟨by omega, by omega⟩)⟩
set_option maxRecDepth 100000 in
theorem xs_26_96cac3f7 {a1 : Int32} {a2 : Int32} {w : cm_W} (hG : sv_w sg w) : ∃ x : Int32, ∃ w' : cm_W, cm_C 5 26 [.inr (.inr (some 0)), .inl a1, .inl a2] w (some (.inl x), w') ∧ sv_w sg w' ∧ (∀ k i, ¬ ((k = 40 ∧ 1 ≤ i ∧ i ≤ 3) ∨ (k = 41 ∧ 0 ≤ i ∧ i ≤ 15) ∨ (k = 42 ∧ 0 ≤ i ∧ i ≤ 15) ∨ (k = 43 ∧ 0 ≤ i ∧ i ≤ 15) ∨ (k = 44 ∧ 0 ≤ i ∧ i ≤ 15) ∨ (k = 45 ∧ 0 ≤ i ∧ i ≤ 15) ∨ (k = 46 ∧ 0 ≤ i ∧ i ≤ 15)) → w'.1 k i = w.1 k i ∧ w'.2 k i = w.2 k i) ∧ ((x.toInt = (-1)) ∨ ((-2147483648) ≤ x.toInt ∧ x.toInt ≤ 2147483647 ∧ 0 ≤ a1.toInt ∧ a1.toInt ≤ 5 ∧ (-2147483648) ≤ a2.toInt ∧ a2.toInt ≤ 600)) := by
  obtain ⟨r, w', hC, hG', hF, q, hq, hr, hp, hs⟩ := wk_use (d := 5) sm_26_96cac3f7_ok (by decide) (as := [.inr (.inr (some 0)), .inl a1, .inl a2]) (w := w) ⟨rfl, sv_in_top _, sv_in_top _, trivial⟩ (fun f hf => by
    cases hf) hG
  have hfr : ∀ k i, ¬ ((k = 40 ∧ 1 ≤ i ∧ i ≤ 3) ∨ (k = 41 ∧ 0 ≤ i ∧ i ≤ 15) ∨ (k = 42 ∧ 0 ≤ i ∧ i ≤ 15) ∨ (k = 43 ∧ 0 ≤ i ∧ i ≤ 15) ∨ (k = 44 ∧ 0 ≤ i ∧ i ≤ 15) ∨ (k = 45 ∧ 0 ≤ i ∧ i ≤ 15) ∨ (k = 46 ∧ 0 ≤ i ∧ i ≤ 15)) → w'.1 k i = w.1 k i ∧ w'.2 k i = w.2 k i := fun k i hki => hF k i (fun ⟨r, z, z1, z2, z3⟩ => by
    simp only [sm_26_96cac3f7, List.mem_cons, List.not_mem_nil, or_false] at z
    rcases z with rfl | rfl | rfl | rfl | rfl | rfl | rfl
    all_goals (simp only at z1 z2 z3; omega))
  simp only [sm_26_96cac3f7, List.mem_cons, List.not_mem_nil, or_false] at hq
  rcases hq with rfl | rfl
  · obtain ⟨x, rfl, hx⟩ := wk_int hr
    have hx := hb_in hx
    exact ⟨x, w', hC, hG', hfr, Or.inl (by omega)⟩
  · obtain ⟨x, rfl, hx⟩ := wk_int hr
    have hx := hb_in hx
    have ra1 := hb_in (lo := 2147483648) (hi := 2147483653) (x := a1) hp.2.1
    have ra2 := hb_in (lo := 0) (hi := 2147484248) (x := a2) hp.2.2.1
    exact ⟨x, w', hC, hG', hfr, Or.inr (⟨by omega, by omega, by omega, by omega, by omega, by omega⟩)⟩
set_option maxRecDepth 100000 in
theorem xs_34_ef2370ea {a1 : Int32} {w : cm_W} (hG : sv_w sg w) : ∃ x : Int32, ∃ w' : cm_W, cm_C 4 34 [.inr (.inr (some 0)), .inl a1] w (some (.inl x), w') ∧ sv_w sg w' ∧ (∀ k i, ¬ ((k = 40 ∧ 1 ≤ i ∧ i ≤ 3) ∨ (k = 41 ∧ 0 ≤ i ∧ i ≤ 15) ∨ (k = 42 ∧ 0 ≤ i ∧ i ≤ 15) ∨ (k = 43 ∧ 0 ≤ i ∧ i ≤ 15) ∨ (k = 44 ∧ 0 ≤ i ∧ i ≤ 15) ∨ (k = 45 ∧ 0 ≤ i ∧ i ≤ 15) ∨ (k = 46 ∧ 0 ≤ i ∧ i ≤ 15)) → w'.1 k i = w.1 k i ∧ w'.2 k i = w.2 k i) ∧ ((x.toInt = (-1)) ∨ ((-2147483648) ≤ x.toInt ∧ x.toInt ≤ 2147483647 ∧ 0 ≤ a1.toInt ∧ a1.toInt ≤ 9)) := by
  obtain ⟨r, w', hC, hG', hF, q, hq, hr, hp, hs⟩ := wk_use (d := 4) sm_34_ef2370ea_ok (by decide) (as := [.inr (.inr (some 0)), .inl a1]) (w := w) ⟨rfl, sv_in_top _, trivial⟩ (fun f hf => by
    cases hf) hG
  have hfr : ∀ k i, ¬ ((k = 40 ∧ 1 ≤ i ∧ i ≤ 3) ∨ (k = 41 ∧ 0 ≤ i ∧ i ≤ 15) ∨ (k = 42 ∧ 0 ≤ i ∧ i ≤ 15) ∨ (k = 43 ∧ 0 ≤ i ∧ i ≤ 15) ∨ (k = 44 ∧ 0 ≤ i ∧ i ≤ 15) ∨ (k = 45 ∧ 0 ≤ i ∧ i ≤ 15) ∨ (k = 46 ∧ 0 ≤ i ∧ i ≤ 15)) → w'.1 k i = w.1 k i ∧ w'.2 k i = w.2 k i := fun k i hki => hF k i (fun ⟨r, z, z1, z2, z3⟩ => by
    simp only [sm_34_ef2370ea, List.mem_cons, List.not_mem_nil, or_false] at z
    rcases z with rfl | rfl | rfl | rfl | rfl | rfl | rfl
    all_goals (simp only at z1 z2 z3; omega))
  simp only [sm_34_ef2370ea, List.mem_cons, List.not_mem_nil, or_false] at hq
  rcases hq with rfl | rfl
  · obtain ⟨x, rfl, hx⟩ := wk_int hr
    have hx := hb_in hx
    exact ⟨x, w', hC, hG', hfr, Or.inl (by omega)⟩
  · obtain ⟨x, rfl, hx⟩ := wk_int hr
    have hx := hb_in hx
    have ra1 := hb_in (lo := 2147483648) (hi := 2147483657) (x := a1) hp.2.1
    exact ⟨x, w', hC, hG', hfr, Or.inr (⟨by omega, by omega, by omega, by omega⟩)⟩
set_option maxRecDepth 100000 in
theorem xs_31_1288ad07 {a1 : Int32} {a2 : Int32} {a3 : Int32} {w : cm_W} (hG : sv_w sg w) : ∃ x : Int32, ∃ w' : cm_W, cm_C 7 31 [.inr (.inr (some 0)), .inl a1, .inl a2, .inl a3] w (some (.inl x), w') ∧ sv_w sg w' ∧ (∀ k i, ¬ ((k = 40 ∧ 1 ≤ i ∧ i ≤ 3) ∨ (k = 41 ∧ 0 ≤ i ∧ i ≤ 15) ∨ (k = 42 ∧ 0 ≤ i ∧ i ≤ 15) ∨ (k = 43 ∧ 0 ≤ i ∧ i ≤ 15) ∨ (k = 44 ∧ 0 ≤ i ∧ i ≤ 15) ∨ (k = 45 ∧ 0 ≤ i ∧ i ≤ 15) ∨ (k = 46 ∧ 0 ≤ i ∧ i ≤ 15) ∨ (k = 120 ∧ i = 0)) → w'.1 k i = w.1 k i ∧ w'.2 k i = w.2 k i) ∧ ((x.toInt = (-1)) ∨ ((-2147483648) ≤ x.toInt ∧ x.toInt ≤ 2147483647 ∧ 0 ≤ a1.toInt ∧ a1.toInt ≤ 5 ∧ 1 ≤ a2.toInt ∧ a2.toInt ≤ 30)) := by
  obtain ⟨r, w', hC, hG', hF, q, hq, hr, hp, hs⟩ := wk_use (d := 7) sm_31_1288ad07_ok (by decide) (as := [.inr (.inr (some 0)), .inl a1, .inl a2, .inl a3]) (w := w) ⟨rfl, sv_in_top _, sv_in_top _, sv_in_top _, trivial⟩ (fun f hf => by
    cases hf) hG
  have hfr : ∀ k i, ¬ ((k = 40 ∧ 1 ≤ i ∧ i ≤ 3) ∨ (k = 41 ∧ 0 ≤ i ∧ i ≤ 15) ∨ (k = 42 ∧ 0 ≤ i ∧ i ≤ 15) ∨ (k = 43 ∧ 0 ≤ i ∧ i ≤ 15) ∨ (k = 44 ∧ 0 ≤ i ∧ i ≤ 15) ∨ (k = 45 ∧ 0 ≤ i ∧ i ≤ 15) ∨ (k = 46 ∧ 0 ≤ i ∧ i ≤ 15) ∨ (k = 120 ∧ i = 0)) → w'.1 k i = w.1 k i ∧ w'.2 k i = w.2 k i := fun k i hki => hF k i (fun ⟨r, z, z1, z2, z3⟩ => by
    simp only [sm_31_1288ad07, List.mem_cons, List.not_mem_nil, or_false] at z
    rcases z with rfl | rfl | rfl | rfl | rfl | rfl | rfl | rfl
    all_goals (simp only at z1 z2 z3; omega))
  simp only [sm_31_1288ad07, List.mem_cons, List.not_mem_nil, or_false] at hq
  rcases hq with rfl | rfl
  · obtain ⟨x, rfl, hx⟩ := wk_int hr
    have hx := hb_in hx
    exact ⟨x, w', hC, hG', hfr, Or.inl (by omega)⟩
  · obtain ⟨x, rfl, hx⟩ := wk_int hr
    have hx := hb_in hx
    have ra1 := hb_in (lo := 2147483648) (hi := 2147483653) (x := a1) hp.2.1
    have ra2 := hb_in (lo := 2147483649) (hi := 2147483678) (x := a2) hp.2.2.1
    exact ⟨x, w', hC, hG', hfr, Or.inr (⟨by omega, by omega, by omega, by omega, by omega, by omega⟩)⟩
set_option maxRecDepth 100000 in
theorem xs_44_ef2370ea {a1 : Int32} {w : cm_W} (hG : sv_w sg w) : ∃ x : Int32, cm_C 1 44 [.inr (.inr (some 0)), .inl a1] w (some (.inl x), w) ∧ (((-2147483648) ≤ x.toInt ∧ x.toInt ≤ 2147483647 ∧ 0 ≤ a1.toInt ∧ a1.toInt ≤ 3) ∨ (x.toInt = (-1))) := by
  obtain ⟨r, w', hC, hG', hF, q, hq, hr, hp, hs⟩ := wk_use (d := 1) sm_44_ef2370ea_ok (by decide) (as := [.inr (.inr (some 0)), .inl a1]) (w := w) ⟨rfl, sv_in_top _, trivial⟩ (fun f hf => by
    cases hf) hG
  have ew : w' = w := Prod.ext (funext fun k => funext fun i => (hF k i (fun ⟨r, z, _⟩ => by cases z)).1) (funext fun k => funext fun i => (hF k i (fun ⟨r, z, _⟩ => by cases z)).2)
  subst ew
  simp only [sm_44_ef2370ea, List.mem_cons, List.not_mem_nil, or_false] at hq
  rcases hq with rfl | rfl
  · obtain ⟨x, rfl, hx⟩ := wk_int hr
    have hx := hb_in hx
    have ra1 := hb_in (lo := 2147483648) (hi := 2147483651) (x := a1) hp.2.1
    exact ⟨x, hC, Or.inl ⟨by omega, by omega, by omega, by omega⟩⟩
  · obtain ⟨x, rfl, hx⟩ := wk_int hr
    have hx := hb_in hx
    exact ⟨x, hC, Or.inr ((by omega))⟩
set_option maxRecDepth 100000 in
theorem xs_7_ef2370ea {a1 : Int32} {w : cm_W} (hG : sv_w sg w) : ∃ x : Int32, cm_C 1 7 [.inr (.inr (some 0)), .inl a1] w (some (.inl x), w) ∧ (((-2147483648) ≤ x.toInt ∧ x.toInt ≤ 2147483647 ∧ 0 ≤ a1.toInt ∧ a1.toInt ≤ 5) ∨ (x.toInt = (-1))) := by
  obtain ⟨r, w', hC, hG', hF, q, hq, hr, hp, hs⟩ := wk_use (d := 1) sm_7_ef2370ea_ok (by decide) (as := [.inr (.inr (some 0)), .inl a1]) (w := w) ⟨rfl, sv_in_top _, trivial⟩ (fun f hf => by
    cases hf) hG
  have ew : w' = w := Prod.ext (funext fun k => funext fun i => (hF k i (fun ⟨r, z, _⟩ => by cases z)).1) (funext fun k => funext fun i => (hF k i (fun ⟨r, z, _⟩ => by cases z)).2)
  subst ew
  simp only [sm_7_ef2370ea, List.mem_cons, List.not_mem_nil, or_false] at hq
  rcases hq with rfl | rfl
  · obtain ⟨x, rfl, hx⟩ := wk_int hr
    have hx := hb_in hx
    have ra1 := hb_in (lo := 2147483648) (hi := 2147483653) (x := a1) hp.2.1
    exact ⟨x, hC, Or.inl ⟨by omega, by omega, by omega, by omega⟩⟩
  · obtain ⟨x, rfl, hx⟩ := wk_int hr
    have hx := hb_in hx
    exact ⟨x, hC, Or.inr ((by omega))⟩
set_option maxRecDepth 100000 in
theorem xs_24_ef2370ea {a1 : Int32} {w : cm_W} (hG : sv_w sg w) : ∃ x : Int32, ∃ w' : cm_W, cm_C 4 24 [.inr (.inr (some 0)), .inl a1] w (some (.inl x), w') ∧ sv_w sg w' ∧ (∀ k i, ¬ ((k = 40 ∧ 1 ≤ i ∧ i ≤ 3) ∨ (k = 41 ∧ 0 ≤ i ∧ i ≤ 15) ∨ (k = 42 ∧ 0 ≤ i ∧ i ≤ 15) ∨ (k = 43 ∧ 0 ≤ i ∧ i ≤ 15) ∨ (k = 44 ∧ 0 ≤ i ∧ i ≤ 15) ∨ (k = 45 ∧ 0 ≤ i ∧ i ≤ 15) ∨ (k = 46 ∧ 0 ≤ i ∧ i ≤ 15)) → w'.1 k i = w.1 k i ∧ w'.2 k i = w.2 k i) ∧ ((x.toInt = (-1)) ∨ (0 ≤ x.toInt ∧ x.toInt ≤ 200 ∧ 1 ≤ a1.toInt ∧ a1.toInt ≤ 199)) := by
  obtain ⟨r, w', hC, hG', hF, q, hq, hr, hp, hs⟩ := wk_use (d := 4) sm_24_ef2370ea_ok (by decide) (as := [.inr (.inr (some 0)), .inl a1]) (w := w) ⟨rfl, sv_in_top _, trivial⟩ (fun f hf => by
    cases hf) hG
  have hfr : ∀ k i, ¬ ((k = 40 ∧ 1 ≤ i ∧ i ≤ 3) ∨ (k = 41 ∧ 0 ≤ i ∧ i ≤ 15) ∨ (k = 42 ∧ 0 ≤ i ∧ i ≤ 15) ∨ (k = 43 ∧ 0 ≤ i ∧ i ≤ 15) ∨ (k = 44 ∧ 0 ≤ i ∧ i ≤ 15) ∨ (k = 45 ∧ 0 ≤ i ∧ i ≤ 15) ∨ (k = 46 ∧ 0 ≤ i ∧ i ≤ 15)) → w'.1 k i = w.1 k i ∧ w'.2 k i = w.2 k i := fun k i hki => hF k i (fun ⟨r, z, z1, z2, z3⟩ => by
    simp only [sm_24_ef2370ea, List.mem_cons, List.not_mem_nil, or_false] at z
    rcases z with rfl | rfl | rfl | rfl | rfl | rfl | rfl
    all_goals (simp only at z1 z2 z3; omega))
  simp only [sm_24_ef2370ea, List.mem_cons, List.not_mem_nil, or_false] at hq
  rcases hq with rfl | rfl
  · obtain ⟨x, rfl, hx⟩ := wk_int hr
    have hx := hb_in hx
    exact ⟨x, w', hC, hG', hfr, Or.inl (by omega)⟩
  · obtain ⟨x, rfl, hx⟩ := wk_int hr
    have hx := hb_in hx
    have ra1 := hb_in (lo := 2147483649) (hi := 2147483847) (x := a1) hp.2.1
    exact ⟨x, w', hC, hG', hfr, Or.inr (⟨by omega, by omega, by omega, by omega⟩)⟩
set_option maxRecDepth 100000 in
theorem xs_103_35fa1572 {w : cm_W} (hG : sv_w sg w) : ∃ x : Int32, ∃ w' : cm_W, cm_C 1 103 [.inr (.inr (some 184))] w (some (.inl x), w') ∧ sv_w sg w' ∧ (∀ k i, ¬ ((k = 184 ∧ i = 0)) → w'.1 k i = w.1 k i ∧ w'.2 k i = w.2 k i) ∧ (((-2147483648) ≤ x.toInt ∧ x.toInt ≤ 2147483647)) := by
  obtain ⟨r, w', hC, hG', hF, q, hq, hr, hp, hs⟩ := wk_use (d := 1) sm_103_35fa1572_ok (by decide) (as := [.inr (.inr (some 184))]) (w := w) ⟨rfl, trivial⟩ (fun f hf => by
    cases hf) hG
  have hfr : ∀ k i, ¬ ((k = 184 ∧ i = 0)) → w'.1 k i = w.1 k i ∧ w'.2 k i = w.2 k i := fun k i hki => hF k i (fun ⟨r, z, z1, z2, z3⟩ => by
    simp only [sm_103_35fa1572, List.mem_cons, List.not_mem_nil, or_false] at z
    rcases z with rfl
    all_goals (simp only at z1 z2 z3; omega))
  simp only [sm_103_35fa1572, List.mem_cons, List.not_mem_nil, or_false] at hq
  rcases hq with rfl
  · obtain ⟨x, rfl, hx⟩ := wk_int hr
    have hx := hb_in hx
    exact ⟨x, w', hC, hG', hfr, ⟨by omega, by omega⟩⟩
set_option maxRecDepth 100000 in
theorem xs_161_431feab5 {a1 : Int32} {a2 : Int32} {w : cm_W} (hG : sv_w sg w) : ∃ x : Int32, ∃ w' : cm_W, cm_C 3 161 [.inr (.inr (some 184)), .inl a1, .inl a2] w (some (.inl x), w') ∧ sv_w sg w' ∧ (∀ k i, ¬ ((k = 184 ∧ i = 0)) → w'.1 k i = w.1 k i ∧ w'.2 k i = w.2 k i) ∧ (((-2147483648) ≤ x.toInt ∧ x.toInt ≤ 2147483647)) := by
  obtain ⟨r, w', hC, hG', hF, q, hq, hr, hp, hs⟩ := wk_use (d := 3) sm_161_431feab5_ok (by decide) (as := [.inr (.inr (some 184)), .inl a1, .inl a2]) (w := w) ⟨rfl, sv_in_top _, sv_in_top _, trivial⟩ (fun f hf => by
    cases hf) hG
  have hfr : ∀ k i, ¬ ((k = 184 ∧ i = 0)) → w'.1 k i = w.1 k i ∧ w'.2 k i = w.2 k i := fun k i hki => hF k i (fun ⟨r, z, z1, z2, z3⟩ => by
    simp only [sm_161_431feab5, List.mem_cons, List.not_mem_nil, or_false] at z
    rcases z with rfl
    all_goals (simp only at z1 z2 z3; omega))
  simp only [sm_161_431feab5, List.mem_cons, List.not_mem_nil, or_false] at hq
  rcases hq with rfl
  · obtain ⟨x, rfl, hx⟩ := wk_int hr
    have hx := hb_in hx
    exact ⟨x, w', hC, hG', hfr, ⟨by omega, by omega⟩⟩
set_option maxRecDepth 100000 in
theorem xs_106_431feab5 {a1 : Int32} {a2 : Int32} {w : cm_W} (hG : sv_w sg w) : ∃ x : Int32, ∃ w' : cm_W, cm_C 3 106 [.inr (.inr (some 184)), .inl a1, .inl a2] w (some (.inl x), w') ∧ sv_w sg w' ∧ (∀ k i, ¬ ((k = 184 ∧ i = 0)) → w'.1 k i = w.1 k i ∧ w'.2 k i = w.2 k i) ∧ ((0 ≤ x.toInt ∧ x.toInt ≤ 60 ∧ 0 ≤ a1.toInt ∧ a1.toInt ≤ 3 ∧ 0 ≤ a2.toInt ∧ a2.toInt ≤ 1) ∨ (x.toInt = (-1))) := by
  obtain ⟨r, w', hC, hG', hF, q, hq, hr, hp, hs⟩ := wk_use (d := 3) sm_106_431feab5_ok (by decide) (as := [.inr (.inr (some 184)), .inl a1, .inl a2]) (w := w) ⟨rfl, sv_in_top _, sv_in_top _, trivial⟩ (fun f hf => by
    cases hf) hG
  have hfr : ∀ k i, ¬ ((k = 184 ∧ i = 0)) → w'.1 k i = w.1 k i ∧ w'.2 k i = w.2 k i := fun k i hki => hF k i (fun ⟨r, z, z1, z2, z3⟩ => by
    simp only [sm_106_431feab5, List.mem_cons, List.not_mem_nil, or_false] at z
    rcases z with rfl
    all_goals (simp only at z1 z2 z3; omega))
  simp only [sm_106_431feab5, List.mem_cons, List.not_mem_nil, or_false] at hq
  rcases hq with rfl | rfl
  · obtain ⟨x, rfl, hx⟩ := wk_int hr
    have hx := hb_in hx
    have ra1 := hb_in (lo := 2147483648) (hi := 2147483651) (x := a1) hp.2.1
    have ra2 := hb_in (lo := 2147483648) (hi := 2147483649) (x := a2) hp.2.2.1
    exact ⟨x, w', hC, hG', hfr, Or.inl ⟨by omega, by omega, by omega, by omega, by omega, by omega⟩⟩
  · obtain ⟨x, rfl, hx⟩ := wk_int hr
    have hx := hb_in hx
    exact ⟨x, w', hC, hG', hfr, Or.inr ((by omega))⟩
set_option maxRecDepth 100000 in
theorem xs_127_431feab5 {a1 : Int32} {a2 : Int32} {w : cm_W} (hG : sv_w sg w) : ∃ x : Int32, ∃ w' : cm_W, cm_C 4 127 [.inr (.inr (some 184)), .inl a1, .inl a2] w (some (.inl x), w') ∧ sv_w sg w' ∧ (∀ k i, ¬ ((k = 184 ∧ i = 0)) → w'.1 k i = w.1 k i ∧ w'.2 k i = w.2 k i) ∧ (((-2147483648) ≤ x.toInt ∧ x.toInt ≤ 2147483647 ∧ 0 ≤ a1.toInt ∧ a1.toInt ≤ 5 ∧ 0 ≤ a2.toInt ∧ a2.toInt ≤ 3) ∨ (x.toInt = (-1))) := by
  obtain ⟨r, w', hC, hG', hF, q, hq, hr, hp, hs⟩ := wk_use (d := 4) sm_127_431feab5_ok (by decide) (as := [.inr (.inr (some 184)), .inl a1, .inl a2]) (w := w) ⟨rfl, sv_in_top _, sv_in_top _, trivial⟩ (fun f hf => by
    cases hf) hG
  have hfr : ∀ k i, ¬ ((k = 184 ∧ i = 0)) → w'.1 k i = w.1 k i ∧ w'.2 k i = w.2 k i := fun k i hki => hF k i (fun ⟨r, z, z1, z2, z3⟩ => by
    simp only [sm_127_431feab5, List.mem_cons, List.not_mem_nil, or_false] at z
    rcases z with rfl
    all_goals (simp only at z1 z2 z3; omega))
  simp only [sm_127_431feab5, List.mem_cons, List.not_mem_nil, or_false] at hq
  rcases hq with rfl | rfl
  · obtain ⟨x, rfl, hx⟩ := wk_int hr
    have hx := hb_in hx
    have ra1 := hb_in (lo := 2147483648) (hi := 2147483653) (x := a1) hp.2.1
    have ra2 := hb_in (lo := 2147483648) (hi := 2147483651) (x := a2) hp.2.2.1
    exact ⟨x, w', hC, hG', hfr, Or.inl ⟨by omega, by omega, by omega, by omega, by omega, by omega⟩⟩
  · obtain ⟨x, rfl, hx⟩ := wk_int hr
    have hx := hb_in hx
    exact ⟨x, w', hC, hG', hfr, Or.inr ((by omega))⟩
set_option maxRecDepth 100000 in
theorem xs_162_431feab5 {a1 : Int32} {a2 : Int32} {w : cm_W} (hG : sv_w sg w) : ∃ x : Int32, ∃ w' : cm_W, cm_C 4 162 [.inr (.inr (some 184)), .inl a1, .inl a2] w (some (.inl x), w') ∧ sv_w sg w' ∧ (∀ k i, ¬ ((k = 184 ∧ i = 0)) → w'.1 k i = w.1 k i ∧ w'.2 k i = w.2 k i) ∧ (((-2147483648) ≤ x.toInt ∧ x.toInt ≤ 2147483647)) := by
  obtain ⟨r, w', hC, hG', hF, q, hq, hr, hp, hs⟩ := wk_use (d := 4) sm_162_431feab5_ok (by decide) (as := [.inr (.inr (some 184)), .inl a1, .inl a2]) (w := w) ⟨rfl, sv_in_top _, sv_in_top _, trivial⟩ (fun f hf => by
    cases hf) hG
  have hfr : ∀ k i, ¬ ((k = 184 ∧ i = 0)) → w'.1 k i = w.1 k i ∧ w'.2 k i = w.2 k i := fun k i hki => hF k i (fun ⟨r, z, z1, z2, z3⟩ => by
    simp only [sm_162_431feab5, List.mem_cons, List.not_mem_nil, or_false] at z
    rcases z with rfl
    all_goals (simp only at z1 z2 z3; omega))
  simp only [sm_162_431feab5, List.mem_cons, List.not_mem_nil, or_false] at hq
  rcases hq with rfl
  · obtain ⟨x, rfl, hx⟩ := wk_int hr
    have hx := hb_in hx
    exact ⟨x, w', hC, hG', hfr, ⟨by omega, by omega⟩⟩
set_option maxRecDepth 100000 in
theorem xs_130_579b40b6 {a1 : Int32} {w : cm_W} (hG : sv_w sg w) : ∃ x : Int32, ∃ w' : cm_W, cm_C 2 130 [.inr (.inr (some 184)), .inl a1] w (some (.inl x), w') ∧ sv_w sg w' ∧ (∀ k i, ¬ ((k = 184 ∧ i = 0)) → w'.1 k i = w.1 k i ∧ w'.2 k i = w.2 k i) ∧ (((-2147483648) ≤ x.toInt ∧ x.toInt ≤ 2147483647 ∧ 0 ≤ a1.toInt ∧ a1.toInt ≤ 7) ∨ (x.toInt = (-1))) := by
  obtain ⟨r, w', hC, hG', hF, q, hq, hr, hp, hs⟩ := wk_use (d := 2) sm_130_579b40b6_ok (by decide) (as := [.inr (.inr (some 184)), .inl a1]) (w := w) ⟨rfl, sv_in_top _, trivial⟩ (fun f hf => by
    cases hf) hG
  have hfr : ∀ k i, ¬ ((k = 184 ∧ i = 0)) → w'.1 k i = w.1 k i ∧ w'.2 k i = w.2 k i := fun k i hki => hF k i (fun ⟨r, z, z1, z2, z3⟩ => by
    simp only [sm_130_579b40b6, List.mem_cons, List.not_mem_nil, or_false] at z
    rcases z with rfl
    all_goals (simp only at z1 z2 z3; omega))
  simp only [sm_130_579b40b6, List.mem_cons, List.not_mem_nil, or_false] at hq
  rcases hq with rfl | rfl
  · obtain ⟨x, rfl, hx⟩ := wk_int hr
    have hx := hb_in hx
    have ra1 := hb_in (lo := 2147483648) (hi := 2147483655) (x := a1) hp.2.1
    exact ⟨x, w', hC, hG', hfr, Or.inl ⟨by omega, by omega, by omega, by omega⟩⟩
  · obtain ⟨x, rfl, hx⟩ := wk_int hr
    have hx := hb_in hx
    exact ⟨x, w', hC, hG', hfr, Or.inr ((by omega))⟩
set_option maxRecDepth 100000 in
theorem xs_101_29d6cefb {a1 : Int32} {a2 : Int32} {w : cm_W} (hG : sv_w sg w) : ∃ x : Int32, ∃ w' : cm_W, cm_C 4 101 [.inr (.inr (some 184)), .inl a1, .inl a2] w (some (.inl x), w') ∧ sv_w sg w' ∧ (∀ k i, ¬ ((k = 184 ∧ i = 0) ∨ (k = 184 ∧ i = 23) ∨ (k = 186 ∧ 82 ≤ i ∧ i ≤ 87) ∨ (k = 186 ∧ 94 ≤ i ∧ i ≤ 103) ∨ (k = 191 ∧ 0 ≤ i ∧ i ≤ 327)) → w'.1 k i = w.1 k i ∧ w'.2 k i = w.2 k i) ∧ ((x.toInt = (-1)) ∨ (0 ≤ x.toInt ∧ x.toInt ≤ 3 ∧ 0 ≤ a1.toInt ∧ a1.toInt ≤ 5 ∧ 0 ≤ a2.toInt ∧ a2.toInt ≤ 3)) := by
  obtain ⟨r, w', hC, hG', hF, q, hq, hr, hp, hs⟩ := wk_use (d := 4) sm_101_29d6cefb_ok (by decide) (as := [.inr (.inr (some 184)), .inl a1, .inl a2]) (w := w) ⟨rfl, sv_in_top _, sv_in_top _, trivial⟩ (fun f hf => by
    rcases List.mem_cons.mp hf with rfl | hf
    · exact ⟨(by have h9 := hG 186 100; rw [xg_a22dd548] at h9; exact h9), .inl rfl, .inl rfl⟩
    rcases List.mem_cons.mp hf with rfl | hf
    · exact ⟨(by have h9 := hG 186 101; rw [xg_a3982855] at h9; exact h9), .inl rfl, .inl rfl⟩
    rcases List.mem_cons.mp hf with rfl | hf
    · exact ⟨(by have h9 := hG 186 102; rw [xg_a1462f72] at h9; exact h9), .inl rfl, .inl rfl⟩
    rcases List.mem_cons.mp hf with rfl | hf
    · exact ⟨(by have h9 := hG 186 103; rw [xg_a0f3d26f] at h9; exact h9), .inl rfl, .inl rfl⟩
    cases hf) hG
  have hfr : ∀ k i, ¬ ((k = 184 ∧ i = 0) ∨ (k = 184 ∧ i = 23) ∨ (k = 186 ∧ 82 ≤ i ∧ i ≤ 87) ∨ (k = 186 ∧ 94 ≤ i ∧ i ≤ 103) ∨ (k = 191 ∧ 0 ≤ i ∧ i ≤ 327)) → w'.1 k i = w.1 k i ∧ w'.2 k i = w.2 k i := fun k i hki => hF k i (fun ⟨r, z, z1, z2, z3⟩ => by
    simp only [sm_101_29d6cefb, List.mem_cons, List.not_mem_nil, or_false] at z
    rcases z with rfl | rfl | rfl | rfl | rfl
    all_goals (simp only at z1 z2 z3; omega))
  simp only [sm_101_29d6cefb, List.mem_cons, List.not_mem_nil, or_false] at hq
  rcases hq with rfl | rfl
  · obtain ⟨x, rfl, hx⟩ := wk_int hr
    have hx := hb_in hx
    exact ⟨x, w', hC, hG', hfr, Or.inl (by omega)⟩
  · obtain ⟨x, rfl, hx⟩ := wk_int hr
    have hx := hb_in hx
    have ra1 := hb_in (lo := 2147483648) (hi := 2147483653) (x := a1) hp.2.1
    have ra2 := hb_in (lo := 2147483648) (hi := 2147483651) (x := a2) hp.2.2.1
    exact ⟨x, w', hC, hG', hfr, Or.inr (⟨by omega, by omega, by omega, by omega, by omega, by omega⟩)⟩
set_option maxRecDepth 100000 in
theorem xs_90_579b40b6 {a1 : Int32} {w : cm_W} (hG : sv_w sg w) : ∃ x : Int32, ∃ w' : cm_W, cm_C 3 90 [.inr (.inr (some 184)), .inl a1] w (some (.inl x), w') ∧ sv_w sg w' ∧ (∀ k i, ¬ ((k = 184 ∧ i = 0) ∨ (k = 184 ∧ i = 23) ∨ (k = 186 ∧ i = 80) ∨ (k = 191 ∧ 0 ≤ i ∧ i ≤ 327)) → w'.1 k i = w.1 k i ∧ w'.2 k i = w.2 k i) ∧ ((0 ≤ x.toInt ∧ x.toInt ≤ 1 ∧ 0 ≤ a1.toInt ∧ a1.toInt ≤ 5) ∨ (x.toInt = (-1))) := by
  obtain ⟨r, w', hC, hG', hF, q, hq, hr, hp, hs⟩ := wk_use (d := 3) sm_90_579b40b6_ok (by decide) (as := [.inr (.inr (some 184)), .inl a1]) (w := w) ⟨rfl, sv_in_top _, trivial⟩ (fun f hf => by
    cases hf) hG
  have hfr : ∀ k i, ¬ ((k = 184 ∧ i = 0) ∨ (k = 184 ∧ i = 23) ∨ (k = 186 ∧ i = 80) ∨ (k = 191 ∧ 0 ≤ i ∧ i ≤ 327)) → w'.1 k i = w.1 k i ∧ w'.2 k i = w.2 k i := fun k i hki => hF k i (fun ⟨r, z, z1, z2, z3⟩ => by
    simp only [sm_90_579b40b6, List.mem_cons, List.not_mem_nil, or_false] at z
    rcases z with rfl | rfl | rfl | rfl
    all_goals (simp only at z1 z2 z3; omega))
  simp only [sm_90_579b40b6, List.mem_cons, List.not_mem_nil, or_false] at hq
  rcases hq with rfl | rfl
  · obtain ⟨x, rfl, hx⟩ := wk_int hr
    have hx := hb_in hx
    have ra1 := hb_in (lo := 2147483648) (hi := 2147483653) (x := a1) hp.2.1
    exact ⟨x, w', hC, hG', hfr, Or.inl ⟨by omega, by omega, by omega, by omega⟩⟩
  · obtain ⟨x, rfl, hx⟩ := wk_int hr
    have hx := hb_in hx
    exact ⟨x, w', hC, hG', hfr, Or.inr ((by omega))⟩
set_option maxRecDepth 100000 in
theorem xs_128_579b40b6 {a1 : Int32} {w : cm_W} (hG : sv_w sg w) : ∃ x : Int32, ∃ w' : cm_W, cm_C 3 128 [.inr (.inr (some 184)), .inl a1] w (some (.inl x), w') ∧ sv_w sg w' ∧ (∀ k i, ¬ ((k = 184 ∧ i = 0) ∨ (k = 184 ∧ i = 23) ∨ (k = 186 ∧ i = 80) ∨ (k = 191 ∧ 0 ≤ i ∧ i ≤ 327)) → w'.1 k i = w.1 k i ∧ w'.2 k i = w.2 k i) ∧ ((0 ≤ x.toInt ∧ x.toInt ≤ 1 ∧ 0 ≤ a1.toInt ∧ a1.toInt ≤ 5) ∨ (x.toInt = (-1))) := by
  obtain ⟨r, w', hC, hG', hF, q, hq, hr, hp, hs⟩ := wk_use (d := 3) sm_128_579b40b6_ok (by decide) (as := [.inr (.inr (some 184)), .inl a1]) (w := w) ⟨rfl, sv_in_top _, trivial⟩ (fun f hf => by
    cases hf) hG
  have hfr : ∀ k i, ¬ ((k = 184 ∧ i = 0) ∨ (k = 184 ∧ i = 23) ∨ (k = 186 ∧ i = 80) ∨ (k = 191 ∧ 0 ≤ i ∧ i ≤ 327)) → w'.1 k i = w.1 k i ∧ w'.2 k i = w.2 k i := fun k i hki => hF k i (fun ⟨r, z, z1, z2, z3⟩ => by
    simp only [sm_128_579b40b6, List.mem_cons, List.not_mem_nil, or_false] at z
    rcases z with rfl | rfl | rfl | rfl
    all_goals (simp only at z1 z2 z3; omega))
  simp only [sm_128_579b40b6, List.mem_cons, List.not_mem_nil, or_false] at hq
  rcases hq with rfl | rfl
  · obtain ⟨x, rfl, hx⟩ := wk_int hr
    have hx := hb_in hx
    have ra1 := hb_in (lo := 2147483648) (hi := 2147483653) (x := a1) hp.2.1
    exact ⟨x, w', hC, hG', hfr, Or.inl ⟨by omega, by omega, by omega, by omega⟩⟩
  · obtain ⟨x, rfl, hx⟩ := wk_int hr
    have hx := hb_in hx
    exact ⟨x, w', hC, hG', hfr, Or.inr ((by omega))⟩
set_option maxRecDepth 100000 in
theorem xs_126_579b40b6 {a1 : Int32} {w : cm_W} (hG : sv_w sg w) : ∃ x : Int32, ∃ w' : cm_W, cm_C 4 126 [.inr (.inr (some 184)), .inl a1] w (some (.inl x), w') ∧ sv_w sg w' ∧ (∀ k i, ¬ ((k = 184 ∧ i = 0) ∨ (k = 184 ∧ i = 23) ∨ (k = 186 ∧ 104 ≤ i ∧ i ≤ 109) ∨ (k = 191 ∧ 0 ≤ i ∧ i ≤ 327)) → w'.1 k i = w.1 k i ∧ w'.2 k i = w.2 k i) ∧ ((0 ≤ x.toInt ∧ x.toInt ≤ 3 ∧ 0 ≤ a1.toInt ∧ a1.toInt ≤ 5) ∨ (x.toInt = (-1))) := by
  obtain ⟨r, w', hC, hG', hF, q, hq, hr, hp, hs⟩ := wk_use (d := 4) sm_126_579b40b6_ok (by decide) (as := [.inr (.inr (some 184)), .inl a1]) (w := w) ⟨rfl, sv_in_top _, trivial⟩ (fun f hf => by
    cases hf) hG
  have hfr : ∀ k i, ¬ ((k = 184 ∧ i = 0) ∨ (k = 184 ∧ i = 23) ∨ (k = 186 ∧ 104 ≤ i ∧ i ≤ 109) ∨ (k = 191 ∧ 0 ≤ i ∧ i ≤ 327)) → w'.1 k i = w.1 k i ∧ w'.2 k i = w.2 k i := fun k i hki => hF k i (fun ⟨r, z, z1, z2, z3⟩ => by
    simp only [sm_126_579b40b6, List.mem_cons, List.not_mem_nil, or_false] at z
    rcases z with rfl | rfl | rfl | rfl
    all_goals (simp only at z1 z2 z3; omega))
  simp only [sm_126_579b40b6, List.mem_cons, List.not_mem_nil, or_false] at hq
  rcases hq with rfl | rfl
  · obtain ⟨x, rfl, hx⟩ := wk_int hr
    have hx := hb_in hx
    have ra1 := hb_in (lo := 2147483648) (hi := 2147483653) (x := a1) hp.2.1
    exact ⟨x, w', hC, hG', hfr, Or.inl ⟨by omega, by omega, by omega, by omega⟩⟩
  · obtain ⟨x, rfl, hx⟩ := wk_int hr
    have hx := hb_in hx
    exact ⟨x, w', hC, hG', hfr, Or.inr ((by omega))⟩
set_option maxRecDepth 100000 in
theorem xg_919b5186 : sv_g sg 186 79 = (2147483648, 2147484248) := by decide +kernel
set_option maxRecDepth 100000 in
theorem xs_111_e66e5f6c {a1 : Int32} {w : cm_W} (hG : sv_w sg w) : ∃ x : Int32, ∃ w' : cm_W, cm_C 6 111 [.inr (.inr (some 184)), .inl a1] w (some (.inl x), w') ∧ sv_w sg w' ∧ (∀ k i, ¬ ((k = 184 ∧ i = 0) ∨ (k = 184 ∧ i = 23) ∨ (k = 186 ∧ i = 79) ∨ (k = 186 ∧ 81 ≤ i ∧ i ≤ 93) ∨ (k = 186 ∧ 110 ≤ i ∧ i ≤ 119) ∨ (k = 191 ∧ 0 ≤ i ∧ i ≤ 327)) → w'.1 k i = w.1 k i ∧ w'.2 k i = w.2 k i) ∧ ((x.toInt = (-1)) ∨ (0 ≤ x.toInt ∧ x.toInt ≤ 2147483647 ∧ 1 ≤ a1.toInt ∧ a1.toInt ≤ 60)) := by
  obtain ⟨r, w', hC, hG', hF, q, hq, hr, hp, hs⟩ := wk_use (d := 6) sm_111_e66e5f6c_ok (by decide) (as := [.inr (.inr (some 184)), .inl a1]) (w := w) ⟨rfl, sv_in_top _, trivial⟩ (fun f hf => by
    rcases List.mem_cons.mp hf with rfl | hf
    · exact ⟨(by have h9 := hG 186 79; rw [xg_919b5186] at h9; exact h9), .inr (Nat.le_refl _), .inl rfl⟩
    cases hf) hG
  have hfr : ∀ k i, ¬ ((k = 184 ∧ i = 0) ∨ (k = 184 ∧ i = 23) ∨ (k = 186 ∧ i = 79) ∨ (k = 186 ∧ 81 ≤ i ∧ i ≤ 93) ∨ (k = 186 ∧ 110 ≤ i ∧ i ≤ 119) ∨ (k = 191 ∧ 0 ≤ i ∧ i ≤ 327)) → w'.1 k i = w.1 k i ∧ w'.2 k i = w.2 k i := fun k i hki => hF k i (fun ⟨r, z, z1, z2, z3⟩ => by
    simp only [sm_111_e66e5f6c, List.mem_cons, List.not_mem_nil, or_false] at z
    rcases z with rfl | rfl | rfl | rfl | rfl | rfl
    all_goals (simp only at z1 z2 z3; omega))
  simp only [sm_111_e66e5f6c, List.mem_cons, List.not_mem_nil, or_false] at hq
  rcases hq with rfl | rfl
  · obtain ⟨x, rfl, hx⟩ := wk_int hr
    have hx := hb_in hx
    exact ⟨x, w', hC, hG', hfr, Or.inl (by omega)⟩
  · obtain ⟨x, rfl, hx⟩ := wk_int hr
    have hx := hb_in hx
    have ra1 := hb_in (lo := 2147483649) (hi := 2147483708) (x := a1) hp.2.1
    exact ⟨x, w', hC, hG', hfr, Or.inr (⟨by omega, by omega, by omega, by omega⟩)⟩
set_option maxRecDepth 100000 in
theorem xs_149_30dd1ae4 {w : cm_W} (hG : sv_w sg w) : ∃ x : Int32, ∃ w' : cm_W, cm_C 1 149 [.inr (.inr (some 184))] w (some (.inl x), w') ∧ sv_w sg w' ∧ (∀ k i, ¬ ((k = 184 ∧ i = 0) ∨ (k = 184 ∧ i = 23) ∨ (k = 186 ∧ 79 ≤ i ∧ i ≤ 119)) → w'.1 k i = w.1 k i ∧ w'.2 k i = w.2 k i) ∧ ((x.toInt = (-1)) ∨ (0 ≤ x.toInt ∧ x.toInt ≤ 7)) := by
  obtain ⟨r, w', hC, hG', hF, q, hq, hr, hp, hs⟩ := wk_use (d := 1) sm_149_30dd1ae4_ok (by decide) (as := [.inr (.inr (some 184))]) (w := w) ⟨rfl, trivial⟩ (fun f hf => by
    rcases List.mem_cons.mp hf with rfl | hf
    · exact ⟨(by have h9 := hG 184 23; rw [xg_14fa25fd] at h9; exact h9), .inl rfl, .inl rfl⟩
    cases hf) hG
  have hfr : ∀ k i, ¬ ((k = 184 ∧ i = 0) ∨ (k = 184 ∧ i = 23) ∨ (k = 186 ∧ 79 ≤ i ∧ i ≤ 119)) → w'.1 k i = w.1 k i ∧ w'.2 k i = w.2 k i := fun k i hki => hF k i (fun ⟨r, z, z1, z2, z3⟩ => by
    simp only [sm_149_30dd1ae4, List.mem_cons, List.not_mem_nil, or_false] at z
    rcases z with rfl | rfl | rfl
    all_goals (simp only at z1 z2 z3; omega))
  simp only [sm_149_30dd1ae4, List.mem_cons, List.not_mem_nil, or_false] at hq
  rcases hq with rfl | rfl
  · obtain ⟨x, rfl, hx⟩ := wk_int hr
    have hx := hb_in hx
    exact ⟨x, w', hC, hG', hfr, Or.inl (by omega)⟩
  · obtain ⟨x, rfl, hx⟩ := wk_int hr
    have hx := hb_in hx
    exact ⟨x, w', hC, hG', hfr, Or.inr (⟨by omega, by omega⟩)⟩
set_option maxRecDepth 100000 in
theorem xs_132_579b40b6 {a1 : Int32} {w : cm_W} (hG : sv_w sg w) : ∃ x : Int32, ∃ w' : cm_W, cm_C 3 132 [.inr (.inr (some 184)), .inl a1] w (some (.inl x), w') ∧ sv_w sg w' ∧ (∀ k i, ¬ ((k = 184 ∧ i = 0)) → w'.1 k i = w.1 k i ∧ w'.2 k i = w.2 k i) ∧ ((x.toInt = (-1)) ∨ ((-2147483648) ≤ x.toInt ∧ x.toInt ≤ 2147483647 ∧ 0 ≤ a1.toInt ∧ a1.toInt ≤ 199)) := by
  obtain ⟨r, w', hC, hG', hF, q, hq, hr, hp, hs⟩ := wk_use (d := 3) sm_132_579b40b6_ok (by decide) (as := [.inr (.inr (some 184)), .inl a1]) (w := w) ⟨rfl, sv_in_top _, trivial⟩ (fun f hf => by
    cases hf) hG
  have hfr : ∀ k i, ¬ ((k = 184 ∧ i = 0)) → w'.1 k i = w.1 k i ∧ w'.2 k i = w.2 k i := fun k i hki => hF k i (fun ⟨r, z, z1, z2, z3⟩ => by
    simp only [sm_132_579b40b6, List.mem_cons, List.not_mem_nil, or_false] at z
    rcases z with rfl
    all_goals (simp only at z1 z2 z3; omega))
  simp only [sm_132_579b40b6, List.mem_cons, List.not_mem_nil, or_false] at hq
  rcases hq with rfl | rfl
  · obtain ⟨x, rfl, hx⟩ := wk_int hr
    have hx := hb_in hx
    exact ⟨x, w', hC, hG', hfr, Or.inl (by omega)⟩
  · obtain ⟨x, rfl, hx⟩ := wk_int hr
    have hx := hb_in hx
    have ra1 := hb_in (lo := 2147483648) (hi := 2147483847) (x := a1) hp.2.1
    exact ⟨x, w', hC, hG', hfr, Or.inr (⟨by omega, by omega, by omega, by omega⟩)⟩
set_option maxRecDepth 100000 in
theorem xs_98_35fa1572 {w : cm_W} (hG : sv_w sg w) : ∃ x : Int32, ∃ w' : cm_W, cm_C 3 98 [.inr (.inr (some 184))] w (some (.inl x), w') ∧ sv_w sg w' ∧ (∀ k i, ¬ ((k = 184 ∧ i = 0)) → w'.1 k i = w.1 k i ∧ w'.2 k i = w.2 k i) ∧ (((-1) ≤ x.toInt ∧ x.toInt ≤ 2147483647)) := by
  obtain ⟨r, w', hC, hG', hF, q, hq, hr, hp, hs⟩ := wk_use (d := 3) sm_98_35fa1572_ok (by decide) (as := [.inr (.inr (some 184))]) (w := w) ⟨rfl, trivial⟩ (fun f hf => by
    cases hf) hG
  have hfr : ∀ k i, ¬ ((k = 184 ∧ i = 0)) → w'.1 k i = w.1 k i ∧ w'.2 k i = w.2 k i := fun k i hki => hF k i (fun ⟨r, z, z1, z2, z3⟩ => by
    simp only [sm_98_35fa1572, List.mem_cons, List.not_mem_nil, or_false] at z
    rcases z with rfl
    all_goals (simp only at z1 z2 z3; omega))
  simp only [sm_98_35fa1572, List.mem_cons, List.not_mem_nil, or_false] at hq
  rcases hq with rfl
  · obtain ⟨x, rfl, hx⟩ := wk_int hr
    have hx := hb_in hx
    exact ⟨x, w', hC, hG', hfr, ⟨by omega, by omega⟩⟩
set_option maxRecDepth 100000 in
theorem xs_137_579b40b6 {a1 : Int32} {w : cm_W} (hG : sv_w sg w) : ∃ x : Int32, ∃ w' : cm_W, cm_C 2 137 [.inr (.inr (some 184)), .inl a1] w (some (.inl x), w') ∧ sv_w sg w' ∧ (∀ k i, ¬ ((k = 184 ∧ i = 0)) → w'.1 k i = w.1 k i ∧ w'.2 k i = w.2 k i) ∧ ((x.toInt = (-1)) ∨ ((-2147483648) ≤ x.toInt ∧ x.toInt ≤ 2147483647 ∧ 0 ≤ a1.toInt ∧ a1.toInt ≤ 5)) := by
  obtain ⟨r, w', hC, hG', hF, q, hq, hr, hp, hs⟩ := wk_use (d := 2) sm_137_579b40b6_ok (by decide) (as := [.inr (.inr (some 184)), .inl a1]) (w := w) ⟨rfl, sv_in_top _, trivial⟩ (fun f hf => by
    cases hf) hG
  have hfr : ∀ k i, ¬ ((k = 184 ∧ i = 0)) → w'.1 k i = w.1 k i ∧ w'.2 k i = w.2 k i := fun k i hki => hF k i (fun ⟨r, z, z1, z2, z3⟩ => by
    simp only [sm_137_579b40b6, List.mem_cons, List.not_mem_nil, or_false] at z
    rcases z with rfl
    all_goals (simp only at z1 z2 z3; omega))
  simp only [sm_137_579b40b6, List.mem_cons, List.not_mem_nil, or_false] at hq
  rcases hq with rfl | rfl
  · obtain ⟨x, rfl, hx⟩ := wk_int hr
    have hx := hb_in hx
    exact ⟨x, w', hC, hG', hfr, Or.inl (by omega)⟩
  · obtain ⟨x, rfl, hx⟩ := wk_int hr
    have hx := hb_in hx
    have ra1 := hb_in (lo := 2147483648) (hi := 2147483653) (x := a1) hp.2.1
    exact ⟨x, w', hC, hG', hfr, Or.inr (⟨by omega, by omega, by omega, by omega⟩)⟩
set_option maxRecDepth 100000 in
theorem xs_104_35fa1572 {w : cm_W} (hG : sv_w sg w) : ∃ x : Int32, ∃ w' : cm_W, cm_C 1 104 [.inr (.inr (some 184))] w (some (.inl x), w') ∧ sv_w sg w' ∧ (∀ k i, ¬ ((k = 184 ∧ i = 0)) → w'.1 k i = w.1 k i ∧ w'.2 k i = w.2 k i) ∧ (((-2147483648) ≤ x.toInt ∧ x.toInt ≤ 2147483647)) := by
  obtain ⟨r, w', hC, hG', hF, q, hq, hr, hp, hs⟩ := wk_use (d := 1) sm_104_35fa1572_ok (by decide) (as := [.inr (.inr (some 184))]) (w := w) ⟨rfl, trivial⟩ (fun f hf => by
    cases hf) hG
  have hfr : ∀ k i, ¬ ((k = 184 ∧ i = 0)) → w'.1 k i = w.1 k i ∧ w'.2 k i = w.2 k i := fun k i hki => hF k i (fun ⟨r, z, z1, z2, z3⟩ => by
    simp only [sm_104_35fa1572, List.mem_cons, List.not_mem_nil, or_false] at z
    rcases z with rfl
    all_goals (simp only at z1 z2 z3; omega))
  simp only [sm_104_35fa1572, List.mem_cons, List.not_mem_nil, or_false] at hq
  rcases hq with rfl
  · obtain ⟨x, rfl, hx⟩ := wk_int hr
    have hx := hb_in hx
    exact ⟨x, w', hC, hG', hfr, ⟨by omega, by omega⟩⟩
set_option maxRecDepth 100000 in
theorem xs_143_35fa1572 {w : cm_W} (hG : sv_w sg w) : ∃ x : Int32, ∃ w' : cm_W, cm_C 1 143 [.inr (.inr (some 184))] w (some (.inl x), w') ∧ sv_w sg w' ∧ (∀ k i, ¬ ((k = 184 ∧ i = 0)) → w'.1 k i = w.1 k i ∧ w'.2 k i = w.2 k i) ∧ (((-2147483648) ≤ x.toInt ∧ x.toInt ≤ 2147483647) ∨ (x.toInt = (-1))) := by
  obtain ⟨r, w', hC, hG', hF, q, hq, hr, hp, hs⟩ := wk_use (d := 1) sm_143_35fa1572_ok (by decide) (as := [.inr (.inr (some 184))]) (w := w) ⟨rfl, trivial⟩ (fun f hf => by
    cases hf) hG
  have hfr : ∀ k i, ¬ ((k = 184 ∧ i = 0)) → w'.1 k i = w.1 k i ∧ w'.2 k i = w.2 k i := fun k i hki => hF k i (fun ⟨r, z, z1, z2, z3⟩ => by
    simp only [sm_143_35fa1572, List.mem_cons, List.not_mem_nil, or_false] at z
    rcases z with rfl
    all_goals (simp only at z1 z2 z3; omega))
  simp only [sm_143_35fa1572, List.mem_cons, List.not_mem_nil, or_false] at hq
  rcases hq with rfl | rfl
  · obtain ⟨x, rfl, hx⟩ := wk_int hr
    have hx := hb_in hx
    exact ⟨x, w', hC, hG', hfr, Or.inl ⟨by omega, by omega⟩⟩
  · obtain ⟨x, rfl, hx⟩ := wk_int hr
    have hx := hb_in hx
    exact ⟨x, w', hC, hG', hfr, Or.inr ((by omega))⟩
set_option maxRecDepth 100000 in
theorem xs_91_35fa1572 {w : cm_W} (hG : sv_w sg w) : ∃ x : Int32, ∃ w' : cm_W, cm_C 1 91 [.inr (.inr (some 184))] w (some (.inl x), w') ∧ sv_w sg w' ∧ (∀ k i, ¬ ((k = 184 ∧ i = 0)) → w'.1 k i = w.1 k i ∧ w'.2 k i = w.2 k i) ∧ (((-2147483648) ≤ x.toInt ∧ x.toInt ≤ 2147483647) ∨ (x.toInt = (-1))) := by
  obtain ⟨r, w', hC, hG', hF, q, hq, hr, hp, hs⟩ := wk_use (d := 1) sm_91_35fa1572_ok (by decide) (as := [.inr (.inr (some 184))]) (w := w) ⟨rfl, trivial⟩ (fun f hf => by
    cases hf) hG
  have hfr : ∀ k i, ¬ ((k = 184 ∧ i = 0)) → w'.1 k i = w.1 k i ∧ w'.2 k i = w.2 k i := fun k i hki => hF k i (fun ⟨r, z, z1, z2, z3⟩ => by
    simp only [sm_91_35fa1572, List.mem_cons, List.not_mem_nil, or_false] at z
    rcases z with rfl
    all_goals (simp only at z1 z2 z3; omega))
  simp only [sm_91_35fa1572, List.mem_cons, List.not_mem_nil, or_false] at hq
  rcases hq with rfl | rfl
  · obtain ⟨x, rfl, hx⟩ := wk_int hr
    have hx := hb_in hx
    exact ⟨x, w', hC, hG', hfr, Or.inl ⟨by omega, by omega⟩⟩
  · obtain ⟨x, rfl, hx⟩ := wk_int hr
    have hx := hb_in hx
    exact ⟨x, w', hC, hG', hfr, Or.inr ((by omega))⟩
set_option maxRecDepth 100000 in
theorem xs_148_e1459c79 {a1 : Int32} {a2 : Int32} {w : cm_W} (hG : sv_w sg w) : ∃ x : Int32, ∃ w' : cm_W, cm_C 6 148 [.inr (.inr (some 184)), .inl a1, .inl a2] w (some (.inl x), w') ∧ sv_w sg w' ∧ (∀ k i, ¬ ((k = 184 ∧ i = 0) ∨ (k = 186 ∧ 79 ≤ i ∧ i ≤ 119) ∨ (k = 192 ∧ 0 ≤ i ∧ i ≤ 40)) → w'.1 k i = w.1 k i ∧ w'.2 k i = w.2 k i) ∧ ((x.toInt = (-1)) ∨ (0 ≤ x.toInt ∧ x.toInt ≤ 600 ∧ 0 ≤ a1.toInt ∧ a1.toInt ≤ 5 ∧ 0 ≤ a2.toInt ∧ a2.toInt ≤ 5) ∨ (x.toInt = (-1) ∧ 0 ≤ a1.toInt ∧ a1.toInt ≤ 5 ∧ 0 ≤ a2.toInt ∧ a2.toInt ≤ 5)) := by
  obtain ⟨r, w', hC, hG', hF, q, hq, hr, hp, hs⟩ := wk_use (d := 6) sm_148_e1459c79_ok (by decide) (as := [.inr (.inr (some 184)), .inl a1, .inl a2]) (w := w) ⟨rfl, sv_in_top _, sv_in_top _, trivial⟩ (fun f hf => by
    rcases List.mem_cons.mp hf with rfl | hf
    · exact ⟨(by have h9 := hG 186 79; rw [xg_919b5186] at h9; exact h9), .inr (Nat.le_refl _), .inl rfl⟩
    cases hf) hG
  have hfr : ∀ k i, ¬ ((k = 184 ∧ i = 0) ∨ (k = 186 ∧ 79 ≤ i ∧ i ≤ 119) ∨ (k = 192 ∧ 0 ≤ i ∧ i ≤ 40)) → w'.1 k i = w.1 k i ∧ w'.2 k i = w.2 k i := fun k i hki => hF k i (fun ⟨r, z, z1, z2, z3⟩ => by
    simp only [sm_148_e1459c79, List.mem_cons, List.not_mem_nil, or_false] at z
    rcases z with rfl | rfl | rfl
    all_goals (simp only at z1 z2 z3; omega))
  simp only [sm_148_e1459c79, List.mem_cons, List.not_mem_nil, or_false] at hq
  rcases hq with rfl | rfl | rfl
  · obtain ⟨x, rfl, hx⟩ := wk_int hr
    have hx := hb_in hx
    exact ⟨x, w', hC, hG', hfr, Or.inl (by omega)⟩
  · obtain ⟨x, rfl, hx⟩ := wk_int hr
    have hx := hb_in hx
    have ra1 := hb_in (lo := 2147483648) (hi := 2147483653) (x := a1) hp.2.1
    have ra2 := hb_in (lo := 2147483648) (hi := 2147483653) (x := a2) hp.2.2.1
    exact ⟨x, w', hC, hG', hfr, Or.inr (Or.inl ⟨by omega, by omega, by omega, by omega, by omega, by omega⟩)⟩
  · obtain ⟨x, rfl, hx⟩ := wk_int hr
    have hx := hb_in hx
    have ra1 := hb_in (lo := 2147483648) (hi := 2147483653) (x := a1) hp.2.1
    have ra2 := hb_in (lo := 2147483648) (hi := 2147483653) (x := a2) hp.2.2.1
    exact ⟨x, w', hC, hG', hfr, Or.inr (Or.inr (⟨by omega, by omega, by omega, by omega, by omega⟩))⟩
set_option maxRecDepth 100000 in
theorem xs_123_e66e5f6c {a1 : Int32} {w : cm_W} (hG : sv_w sg w) : ∃ x : Int32, ∃ w' : cm_W, cm_C 6 123 [.inr (.inr (some 184)), .inl a1] w (some (.inl x), w') ∧ sv_w sg w' ∧ (∀ k i, ¬ ((k = 184 ∧ i = 0) ∨ (k = 186 ∧ 79 ≤ i ∧ i ≤ 119) ∨ (k = 192 ∧ 0 ≤ i ∧ i ≤ 40)) → w'.1 k i = w.1 k i ∧ w'.2 k i = w.2 k i) ∧ ((x.toInt = (-1)) ∨ (0 ≤ x.toInt ∧ x.toInt ≤ 600 ∧ 0 ≤ a1.toInt ∧ a1.toInt ≤ 199) ∨ (x.toInt = (-1) ∧ 0 ≤ a1.toInt ∧ a1.toInt ≤ 199)) := by
  obtain ⟨r, w', hC, hG', hF, q, hq, hr, hp, hs⟩ := wk_use (d := 6) sm_123_e66e5f6c_ok (by decide) (as := [.inr (.inr (some 184)), .inl a1]) (w := w) ⟨rfl, sv_in_top _, trivial⟩ (fun f hf => by
    rcases List.mem_cons.mp hf with rfl | hf
    · exact ⟨(by have h9 := hG 186 79; rw [xg_919b5186] at h9; exact h9), .inr (Nat.le_refl _), .inl rfl⟩
    cases hf) hG
  have hfr : ∀ k i, ¬ ((k = 184 ∧ i = 0) ∨ (k = 186 ∧ 79 ≤ i ∧ i ≤ 119) ∨ (k = 192 ∧ 0 ≤ i ∧ i ≤ 40)) → w'.1 k i = w.1 k i ∧ w'.2 k i = w.2 k i := fun k i hki => hF k i (fun ⟨r, z, z1, z2, z3⟩ => by
    simp only [sm_123_e66e5f6c, List.mem_cons, List.not_mem_nil, or_false] at z
    rcases z with rfl | rfl | rfl
    all_goals (simp only at z1 z2 z3; omega))
  simp only [sm_123_e66e5f6c, List.mem_cons, List.not_mem_nil, or_false] at hq
  rcases hq with rfl | rfl | rfl
  · obtain ⟨x, rfl, hx⟩ := wk_int hr
    have hx := hb_in hx
    exact ⟨x, w', hC, hG', hfr, Or.inl (by omega)⟩
  · obtain ⟨x, rfl, hx⟩ := wk_int hr
    have hx := hb_in hx
    have ra1 := hb_in (lo := 2147483648) (hi := 2147483847) (x := a1) hp.2.1
    exact ⟨x, w', hC, hG', hfr, Or.inr (Or.inl ⟨by omega, by omega, by omega, by omega⟩)⟩
  · obtain ⟨x, rfl, hx⟩ := wk_int hr
    have hx := hb_in hx
    have ra1 := hb_in (lo := 2147483648) (hi := 2147483847) (x := a1) hp.2.1
    exact ⟨x, w', hC, hG', hfr, Or.inr (Or.inr (⟨by omega, by omega, by omega⟩))⟩
set_option maxRecDepth 100000 in
theorem xs_141_431feab5 {a1 : Int32} {a2 : Int32} {w : cm_W} (hG : sv_w sg w) : ∃ x : Int32, ∃ w' : cm_W, cm_C 4 141 [.inr (.inr (some 184)), .inl a1, .inl a2] w (some (.inl x), w') ∧ sv_w sg w' ∧ (∀ k i, ¬ ((k = 184 ∧ i = 0) ∨ (k = 196 ∧ 0 ≤ i ∧ i ≤ 5) ∨ (k = 197 ∧ 0 ≤ i ∧ i ≤ 5)) → w'.1 k i = w.1 k i ∧ w'.2 k i = w.2 k i) ∧ ((x.toInt = (-1)) ∨ ((-2147483648) ≤ x.toInt ∧ x.toInt ≤ 2147483647 ∧ 0 ≤ a1.toInt ∧ a1.toInt ≤ 999 ∧ 0 ≤ a2.toInt ∧ a2.toInt ≤ 5)) := by
  obtain ⟨r, w', hC, hG', hF, q, hq, hr, hp, hs⟩ := wk_use (d := 4) sm_141_431feab5_ok (by decide) (as := [.inr (.inr (some 184)), .inl a1, .inl a2]) (w := w) ⟨rfl, sv_in_top _, sv_in_top _, trivial⟩ (fun f hf => by
    cases hf) hG
  have hfr : ∀ k i, ¬ ((k = 184 ∧ i = 0) ∨ (k = 196 ∧ 0 ≤ i ∧ i ≤ 5) ∨ (k = 197 ∧ 0 ≤ i ∧ i ≤ 5)) → w'.1 k i = w.1 k i ∧ w'.2 k i = w.2 k i := fun k i hki => hF k i (fun ⟨r, z, z1, z2, z3⟩ => by
    simp only [sm_141_431feab5, List.mem_cons, List.not_mem_nil, or_false] at z
    rcases z with rfl | rfl | rfl
    all_goals (simp only at z1 z2 z3; omega))
  simp only [sm_141_431feab5, List.mem_cons, List.not_mem_nil, or_false] at hq
  rcases hq with rfl | rfl
  · obtain ⟨x, rfl, hx⟩ := wk_int hr
    have hx := hb_in hx
    exact ⟨x, w', hC, hG', hfr, Or.inl (by omega)⟩
  · obtain ⟨x, rfl, hx⟩ := wk_int hr
    have hx := hb_in hx
    have ra1 := hb_in (lo := 2147483648) (hi := 2147484647) (x := a1) hp.2.1
    have ra2 := hb_in (lo := 2147483648) (hi := 2147483653) (x := a2) hp.2.2.1
    exact ⟨x, w', hC, hG', hfr, Or.inr (⟨by omega, by omega, by omega, by omega, by omega, by omega⟩)⟩
set_option maxRecDepth 100000 in
theorem xs_97_579b40b6 {a1 : Int32} {w : cm_W} (hG : sv_w sg w) : ∃ x : Int32, ∃ w' : cm_W, cm_C 2 97 [.inr (.inr (some 184)), .inl a1] w (some (.inl x), w') ∧ sv_w sg w' ∧ (∀ k i, ¬ ((k = 184 ∧ i = 0)) → w'.1 k i = w.1 k i ∧ w'.2 k i = w.2 k i) ∧ ((x.toInt = (-1)) ∨ ((-2147483648) ≤ x.toInt ∧ x.toInt ≤ 2147483647 ∧ (-1) ≤ a1.toInt ∧ a1.toInt ≤ 2147483647)) := by
  obtain ⟨r, w', hC, hG', hF, q, hq, hr, hp, hs⟩ := wk_use (d := 2) sm_97_579b40b6_ok (by decide) (as := [.inr (.inr (some 184)), .inl a1]) (w := w) ⟨rfl, sv_in_top _, trivial⟩ (fun f hf => by
    cases hf) hG
  have hfr : ∀ k i, ¬ ((k = 184 ∧ i = 0)) → w'.1 k i = w.1 k i ∧ w'.2 k i = w.2 k i := fun k i hki => hF k i (fun ⟨r, z, z1, z2, z3⟩ => by
    simp only [sm_97_579b40b6, List.mem_cons, List.not_mem_nil, or_false] at z
    rcases z with rfl
    all_goals (simp only at z1 z2 z3; omega))
  simp only [sm_97_579b40b6, List.mem_cons, List.not_mem_nil, or_false] at hq
  rcases hq with rfl | rfl
  · obtain ⟨x, rfl, hx⟩ := wk_int hr
    have hx := hb_in hx
    exact ⟨x, w', hC, hG', hfr, Or.inl (by omega)⟩
  · obtain ⟨x, rfl, hx⟩ := wk_int hr
    have hx := hb_in hx
    have ra1 := hb_in (lo := 2147483647) (hi := 4294967295) (x := a1) hp.2.1
    exact ⟨x, w', hC, hG', hfr, Or.inr (⟨by omega, by omega, by omega, by omega⟩)⟩
set_option maxRecDepth 100000 in
theorem xs_124_e1459c79 {a1 : Int32} {a2 : Int32} {w : cm_W} (hG : sv_w sg w) : ∃ x : Int32, ∃ w' : cm_W, cm_C 6 124 [.inr (.inr (some 184)), .inl a1, .inl a2] w (some (.inl x), w') ∧ sv_w sg w' ∧ (∀ k i, ¬ ((k = 184 ∧ i = 0) ∨ (k = 186 ∧ 79 ≤ i ∧ i ≤ 119) ∨ (k = 192 ∧ 0 ≤ i ∧ i ≤ 40)) → w'.1 k i = w.1 k i ∧ w'.2 k i = w.2 k i) ∧ ((x.toInt = (-1)) ∨ (0 ≤ x.toInt ∧ x.toInt ≤ 199 ∧ 0 ≤ a1.toInt ∧ a1.toInt ≤ 5 ∧ 0 ≤ a2.toInt ∧ a2.toInt ≤ 600)) := by
  obtain ⟨r, w', hC, hG', hF, q, hq, hr, hp, hs⟩ := wk_use (d := 6) sm_124_e1459c79_ok (by decide) (as := [.inr (.inr (some 184)), .inl a1, .inl a2]) (w := w) ⟨rfl, sv_in_top _, sv_in_top _, trivial⟩ (fun f hf => by
    rcases List.mem_cons.mp hf with rfl | hf
    · exact ⟨(by have h9 := hG 186 79; rw [xg_919b5186] at h9; exact h9), .inr (Nat.le_refl _), .inl rfl⟩
    cases hf) hG
  have hfr : ∀ k i, ¬ ((k = 184 ∧ i = 0) ∨ (k = 186 ∧ 79 ≤ i ∧ i ≤ 119) ∨ (k = 192 ∧ 0 ≤ i ∧ i ≤ 40)) → w'.1 k i = w.1 k i ∧ w'.2 k i = w.2 k i := fun k i hki => hF k i (fun ⟨r, z, z1, z2, z3⟩ => by
    simp only [sm_124_e1459c79, List.mem_cons, List.not_mem_nil, or_false] at z
    rcases z with rfl | rfl | rfl
    all_goals (simp only at z1 z2 z3; omega))
  simp only [sm_124_e1459c79, List.mem_cons, List.not_mem_nil, or_false] at hq
  rcases hq with rfl | rfl
  · obtain ⟨x, rfl, hx⟩ := wk_int hr
    have hx := hb_in hx
    exact ⟨x, w', hC, hG', hfr, Or.inl (by omega)⟩
  · obtain ⟨x, rfl, hx⟩ := wk_int hr
    have hx := hb_in hx
    have ra1 := hb_in (lo := 2147483648) (hi := 2147483653) (x := a1) hp.2.1
    have ra2 := hb_in (lo := 2147483648) (hi := 2147484248) (x := a2) hp.2.2.1
    exact ⟨x, w', hC, hG', hfr, Or.inr (⟨by omega, by omega, by omega, by omega, by omega, by omega⟩)⟩
set_option maxRecDepth 100000 in
theorem xs_135_e66e5f6c {a1 : Int32} {w : cm_W} (hG : sv_w sg w) : ∃ x : Int32, ∃ w' : cm_W, cm_C 6 135 [.inr (.inr (some 184)), .inl a1] w (some (.inl x), w') ∧ sv_w sg w' ∧ (∀ k i, ¬ ((k = 184 ∧ i = 0) ∨ (k = 186 ∧ 79 ≤ i ∧ i ≤ 119) ∨ (k = 192 ∧ 0 ≤ i ∧ i ≤ 40)) → w'.1 k i = w.1 k i ∧ w'.2 k i = w.2 k i) ∧ ((x.toInt = (-1)) ∨ ((-2147483648) ≤ x.toInt ∧ x.toInt ≤ 2147483647 ∧ 0 ≤ a1.toInt ∧ a1.toInt ≤ 9)) := by
  obtain ⟨r, w', hC, hG', hF, q, hq, hr, hp, hs⟩ := wk_use (d := 6) sm_135_e66e5f6c_ok (by decide) (as := [.inr (.inr (some 184)), .inl a1]) (w := w) ⟨rfl, sv_in_top _, trivial⟩ (fun f hf => by
    rcases List.mem_cons.mp hf with rfl | hf
    · exact ⟨(by have h9 := hG 186 79; rw [xg_919b5186] at h9; exact h9), .inr (Nat.le_refl _), .inl rfl⟩
    cases hf) hG
  have hfr : ∀ k i, ¬ ((k = 184 ∧ i = 0) ∨ (k = 186 ∧ 79 ≤ i ∧ i ≤ 119) ∨ (k = 192 ∧ 0 ≤ i ∧ i ≤ 40)) → w'.1 k i = w.1 k i ∧ w'.2 k i = w.2 k i := fun k i hki => hF k i (fun ⟨r, z, z1, z2, z3⟩ => by
    simp only [sm_135_e66e5f6c, List.mem_cons, List.not_mem_nil, or_false] at z
    rcases z with rfl | rfl | rfl
    all_goals (simp only at z1 z2 z3; omega))
  simp only [sm_135_e66e5f6c, List.mem_cons, List.not_mem_nil, or_false] at hq
  rcases hq with rfl | rfl
  · obtain ⟨x, rfl, hx⟩ := wk_int hr
    have hx := hb_in hx
    exact ⟨x, w', hC, hG', hfr, Or.inl (by omega)⟩
  · obtain ⟨x, rfl, hx⟩ := wk_int hr
    have hx := hb_in hx
    have ra1 := hb_in (lo := 2147483648) (hi := 2147483657) (x := a1) hp.2.1
    exact ⟨x, w', hC, hG', hfr, Or.inr (⟨by omega, by omega, by omega, by omega⟩)⟩
set_option maxRecDepth 100000 in
theorem xs_100_e9b7db92 {a1 : Int32} {a2 : Int32} {w : cm_W} (hG : sv_w sg w) : ∃ x : Int32, ∃ w' : cm_W, cm_C 6 100 [.inr (.inr (some 184)), .inl a1, .inl a2] w (some (.inl x), w') ∧ sv_w sg w' ∧ (∀ k i, ¬ ((k = 184 ∧ i = 0) ∨ (k = 184 ∧ i = 23) ∨ (k = 184 ∧ i = 34) ∨ (k = 186 ∧ 79 ≤ i ∧ i ≤ 119) ∨ (k = 191 ∧ 0 ≤ i ∧ i ≤ 327)) → w'.1 k i = w.1 k i ∧ w'.2 k i = w.2 k i) ∧ ((x.toInt = (-1)) ∨ (0 ≤ x.toInt ∧ x.toInt ≤ 61 ∧ 1 ≤ a1.toInt ∧ a1.toInt ≤ 60)) := by
  obtain ⟨r, w', hC, hG', hF, q, hq, hr, hp, hs⟩ := wk_use (d := 6) sm_100_e9b7db92_ok (by decide) (as := [.inr (.inr (some 184)), .inl a1, .inl a2]) (w := w) ⟨rfl, sv_in_top _, sv_in_top _, trivial⟩ (fun f hf => by
    rcases List.mem_cons.mp hf with rfl | hf
    · exact ⟨(by have h9 := hG 186 79; rw [xg_919b5186] at h9; exact h9), .inr (Nat.le_refl _), .inl rfl⟩
    rcases List.mem_cons.mp hf with rfl | hf
    · exact ⟨(by have h9 := hG 186 1; rw [xg_c2b3cd54] at h9; exact h9), .inl rfl, .inl rfl⟩
    cases hf) hG
  have hfr : ∀ k i, ¬ ((k = 184 ∧ i = 0) ∨ (k = 184 ∧ i = 23) ∨ (k = 184 ∧ i = 34) ∨ (k = 186 ∧ 79 ≤ i ∧ i ≤ 119) ∨ (k = 191 ∧ 0 ≤ i ∧ i ≤ 327)) → w'.1 k i = w.1 k i ∧ w'.2 k i = w.2 k i := fun k i hki => hF k i (fun ⟨r, z, z1, z2, z3⟩ => by
    simp only [sm_100_e9b7db92, List.mem_cons, List.not_mem_nil, or_false] at z
    rcases z with rfl | rfl | rfl | rfl | rfl
    all_goals (simp only at z1 z2 z3; omega))
  simp only [sm_100_e9b7db92, List.mem_cons, List.not_mem_nil, or_false] at hq
  rcases hq with rfl | rfl
  · obtain ⟨x, rfl, hx⟩ := wk_int hr
    have hx := hb_in hx
    exact ⟨x, w', hC, hG', hfr, Or.inl (by omega)⟩
  · obtain ⟨x, rfl, hx⟩ := wk_int hr
    have hx := hb_in hx
    have ra1 := hb_in (lo := 2147483649) (hi := 2147483708) (x := a1) hp.2.1
    exact ⟨x, w', hC, hG', hfr, Or.inr (⟨by omega, by omega, by omega, by omega⟩)⟩
set_option maxRecDepth 100000 in
theorem xs_131_778db6a3 {a1 : Int32} {a2 : Int32} {a3 : Int32} {w : cm_W} (hG : sv_w sg w) : ∃ x : Int32, ∃ w' : cm_W, cm_C 6 131 [.inr (.inr (some 184)), .inl a1, .inl a2, .inl a3] w (some (.inl x), w') ∧ sv_w sg w' ∧ (∀ k i, ¬ ((k = 184 ∧ i = 0) ∨ (k = 184 ∧ i = 34) ∨ (k = 186 ∧ 79 ≤ i ∧ i ≤ 119) ∨ (k = 192 ∧ 0 ≤ i ∧ i ≤ 40)) → w'.1 k i = w.1 k i ∧ w'.2 k i = w.2 k i) ∧ ((x.toInt = (-1)) ∨ ((-2147483648) ≤ x.toInt ∧ x.toInt ≤ 2147483647 ∧ 0 ≤ a1.toInt ∧ a1.toInt ≤ 5 ∧ 1 ≤ a2.toInt ∧ a2.toInt ≤ 30)) := by
  obtain ⟨r, w', hC, hG', hF, q, hq, hr, hp, hs⟩ := wk_use (d := 6) sm_131_778db6a3_ok (by decide) (as := [.inr (.inr (some 184)), .inl a1, .inl a2, .inl a3]) (w := w) ⟨rfl, sv_in_top _, sv_in_top _, sv_in_top _, trivial⟩ (fun f hf => by
    rcases List.mem_cons.mp hf with rfl | hf
    · exact ⟨(by have h9 := hG 186 79; rw [xg_919b5186] at h9; exact h9), .inr (Nat.le_refl _), .inl rfl⟩
    rcases List.mem_cons.mp hf with rfl | hf
    · exact ⟨(by have h9 := hG 186 1; rw [xg_c2b3cd54] at h9; exact h9), .inl rfl, .inl rfl⟩
    cases hf) hG
  have hfr : ∀ k i, ¬ ((k = 184 ∧ i = 0) ∨ (k = 184 ∧ i = 34) ∨ (k = 186 ∧ 79 ≤ i ∧ i ≤ 119) ∨ (k = 192 ∧ 0 ≤ i ∧ i ≤ 40)) → w'.1 k i = w.1 k i ∧ w'.2 k i = w.2 k i := fun k i hki => hF k i (fun ⟨r, z, z1, z2, z3⟩ => by
    simp only [sm_131_778db6a3, List.mem_cons, List.not_mem_nil, or_false] at z
    rcases z with rfl | rfl | rfl | rfl
    all_goals (simp only at z1 z2 z3; omega))
  simp only [sm_131_778db6a3, List.mem_cons, List.not_mem_nil, or_false] at hq
  rcases hq with rfl | rfl
  · obtain ⟨x, rfl, hx⟩ := wk_int hr
    have hx := hb_in hx
    exact ⟨x, w', hC, hG', hfr, Or.inl (by omega)⟩
  · obtain ⟨x, rfl, hx⟩ := wk_int hr
    have hx := hb_in hx
    have ra1 := hb_in (lo := 2147483648) (hi := 2147483653) (x := a1) hp.2.1
    have ra2 := hb_in (lo := 2147483649) (hi := 2147483678) (x := a2) hp.2.2.1
    exact ⟨x, w', hC, hG', hfr, Or.inr (⟨by omega, by omega, by omega, by omega, by omega, by omega⟩)⟩
set_option maxRecDepth 100000 in
theorem xs_146_579b40b6 {a1 : Int32} {w : cm_W} (hG : sv_w sg w) : ∃ x : Int32, ∃ w' : cm_W, cm_C 2 146 [.inr (.inr (some 184)), .inl a1] w (some (.inl x), w') ∧ sv_w sg w' ∧ (∀ k i, ¬ ((k = 184 ∧ i = 0)) → w'.1 k i = w.1 k i ∧ w'.2 k i = w.2 k i) ∧ ((x.toInt = (-1)) ∨ ((-2147483648) ≤ x.toInt ∧ x.toInt ≤ 2147483647 ∧ 0 ≤ a1.toInt ∧ a1.toInt ≤ 3)) := by
  obtain ⟨r, w', hC, hG', hF, q, hq, hr, hp, hs⟩ := wk_use (d := 2) sm_146_579b40b6_ok (by decide) (as := [.inr (.inr (some 184)), .inl a1]) (w := w) ⟨rfl, sv_in_top _, trivial⟩ (fun f hf => by
    cases hf) hG
  have hfr : ∀ k i, ¬ ((k = 184 ∧ i = 0)) → w'.1 k i = w.1 k i ∧ w'.2 k i = w.2 k i := fun k i hki => hF k i (fun ⟨r, z, z1, z2, z3⟩ => by
    simp only [sm_146_579b40b6, List.mem_cons, List.not_mem_nil, or_false] at z
    rcases z with rfl
    all_goals (simp only at z1 z2 z3; omega))
  simp only [sm_146_579b40b6, List.mem_cons, List.not_mem_nil, or_false] at hq
  rcases hq with rfl | rfl
  · obtain ⟨x, rfl, hx⟩ := wk_int hr
    have hx := hb_in hx
    exact ⟨x, w', hC, hG', hfr, Or.inl (by omega)⟩
  · obtain ⟨x, rfl, hx⟩ := wk_int hr
    have hx := hb_in hx
    have ra1 := hb_in (lo := 2147483648) (hi := 2147483651) (x := a1) hp.2.1
    exact ⟨x, w', hC, hG', hfr, Or.inr (⟨by omega, by omega, by omega, by omega⟩)⟩
set_option maxRecDepth 100000 in
theorem xs_99_579b40b6 {a1 : Int32} {w : cm_W} (hG : sv_w sg w) : ∃ x : Int32, ∃ w' : cm_W, cm_C 2 99 [.inr (.inr (some 184)), .inl a1] w (some (.inl x), w') ∧ sv_w sg w' ∧ (∀ k i, ¬ ((k = 184 ∧ i = 0)) → w'.1 k i = w.1 k i ∧ w'.2 k i = w.2 k i) ∧ ((0 ≤ x.toInt ∧ x.toInt ≤ 940 ∧ 0 ≤ a1.toInt ∧ a1.toInt ≤ 5) ∨ (x.toInt = (-1))) := by
  obtain ⟨r, w', hC, hG', hF, q, hq, hr, hp, hs⟩ := wk_use (d := 2) sm_99_579b40b6_ok (by decide) (as := [.inr (.inr (some 184)), .inl a1]) (w := w) ⟨rfl, sv_in_top _, trivial⟩ (fun f hf => by
    cases hf) hG
  have hfr : ∀ k i, ¬ ((k = 184 ∧ i = 0)) → w'.1 k i = w.1 k i ∧ w'.2 k i = w.2 k i := fun k i hki => hF k i (fun ⟨r, z, z1, z2, z3⟩ => by
    simp only [sm_99_579b40b6, List.mem_cons, List.not_mem_nil, or_false] at z
    rcases z with rfl
    all_goals (simp only at z1 z2 z3; omega))
  simp only [sm_99_579b40b6, List.mem_cons, List.not_mem_nil, or_false] at hq
  rcases hq with rfl | rfl
  · obtain ⟨x, rfl, hx⟩ := wk_int hr
    have hx := hb_in hx
    have ra1 := hb_in (lo := 2147483648) (hi := 2147483653) (x := a1) hp.2.1
    exact ⟨x, w', hC, hG', hfr, Or.inl ⟨by omega, by omega, by omega, by omega⟩⟩
  · obtain ⟨x, rfl, hx⟩ := wk_int hr
    have hx := hb_in hx
    exact ⟨x, w', hC, hG', hfr, Or.inr ((by omega))⟩
set_option maxRecDepth 100000 in
theorem xs_92_d1d51e99_2678 {w : cm_W} (hG : sv_w sg w) : ∃ x : Int32, ∃ w' : cm_W, cm_C 3 92 [.inr (.inr (some 184))] w (some (.inl x), w') ∧ sv_w sg w' ∧ (∀ k i, ¬ ((k = 184 ∧ i = 0) ∨ (k = 184 ∧ 2 ≤ i ∧ i ≤ 5) ∨ (k = 184 ∧ 28 ≤ i ∧ i ≤ 30) ∨ (k = 195 ∧ 0 ≤ i ∧ i ≤ 3)) → w'.1 k i = w.1 k i ∧ w'.2 k i = w.2 k i) ∧ ((x.toInt = (-1) ∧ (w'.1 184 2).toInt = 0) ∨ ((-2147483648) ≤ x.toInt ∧ x.toInt ≤ 2147483647 ∧ (w'.1 184 2).toInt = 0)) := by
  obtain ⟨r, w', hC, hG', hF, q, hq, hr, hp, hs⟩ := wk_use (d := 3) sm_92_d1d51e99_ok (by decide) (as := [.inr (.inr (some 184))]) (w := w) ⟨rfl, trivial⟩ (fun f hf => by
    rcases List.mem_cons.mp hf with rfl | hf
    · exact ⟨(by have h9 := hG 184 2; rw [xg_ea0e0444] at h9; exact h9), .inl rfl, .inl rfl⟩
    cases hf) hG
  have hfr : ∀ k i, ¬ ((k = 184 ∧ i = 0) ∨ (k = 184 ∧ 2 ≤ i ∧ i ≤ 5) ∨ (k = 184 ∧ 28 ≤ i ∧ i ≤ 30) ∨ (k = 195 ∧ 0 ≤ i ∧ i ≤ 3)) → w'.1 k i = w.1 k i ∧ w'.2 k i = w.2 k i := fun k i hki => hF k i (fun ⟨r, z, z1, z2, z3⟩ => by
    simp only [sm_92_d1d51e99, List.mem_cons, List.not_mem_nil, or_false] at z
    rcases z with rfl | rfl | rfl | rfl
    all_goals (simp only at z1 z2 z3; omega))
  simp only [sm_92_d1d51e99, List.mem_cons, List.not_mem_nil, or_false] at hq
  rcases hq with rfl | rfl
  · obtain ⟨x, rfl, hx⟩ := wk_int hr
    have hx := hb_in hx
    have s0 := hs _ List.mem_cons_self
    have t0 := hb_in (lo := 2147483648) (hi := 2147483648) (x := w'.1 184 2) s0.1
    exact ⟨x, w', hC, hG', hfr, Or.inl ⟨by omega, by omega⟩⟩
  · obtain ⟨x, rfl, hx⟩ := wk_int hr
    have hx := hb_in hx
    have s0 := hs _ List.mem_cons_self
    have t0 := hb_in (lo := 2147483648) (hi := 2147483648) (x := w'.1 184 2) s0.1
    exact ⟨x, w', hC, hG', hfr, Or.inr (⟨by omega, by omega, by omega⟩)⟩
set_option maxRecDepth 100000 in
theorem xd_3c770871 : decode (ia_code 10) 0 = .ok (.iload_n 1, 1) := fdd_d (by decide +kernel)
set_option maxRecDepth 100000 in
theorem xd_db7c7621 : decode (ia_code 10) 1 = .ok (.ifCond .lt 11, 3) := fdd_d (by decide +kernel)
set_option maxRecDepth 100000 in
theorem xd_edf2a8dd : decode (ia_code 10) 12 = .ok (.iconst 0, 1) := fdd_d (by decide +kernel)
set_option maxRecDepth 100000 in
theorem xd_6b88d9b0 : decode (ia_code 10) 13 = .ok (.ireturn, 1) := fdd_d (by decide +kernel)
set_option maxRecDepth 100000 in
theorem xr_0b299d6c : ia_ret 10 = some .boolean := by decide +kernel
set_option maxRecDepth 100000 in
theorem xd_3c2ba9e2 : decode (ia_code 10) 4 = .ok (.iload_n 1, 1) := fdd_d (by decide +kernel)
set_option maxRecDepth 100000 in
theorem xd_c03bb9eb : decode (ia_code 10) 5 = .ok (.aload_n 0, 1) := fdd_d (by decide +kernel)
set_option maxRecDepth 100000 in
theorem xd_bbf83b5c : decode (ia_code 10) 6 = .ok (.getfield 105, 3) := fdd_d (by decide +kernel)
set_option maxRecDepth 100000 in
theorem xf_34ec780b : wk_gf 10 105 0 1 0 = true := by decide +kernel
set_option maxRecDepth 100000 in
theorem xd_285a46f1 : decode (ia_code 10) 9 = .ok (.if_icmp .le 5, 3) := fdd_d (by decide +kernel)
set_option maxRecDepth 100000 in
theorem xd_570f87e9 : decode (ia_code 10) 14 = .ok (.aload_n 0, 1) := fdd_d (by decide +kernel)
set_option maxRecDepth 100000 in
theorem xd_ab1f97e0 : decode (ia_code 10) 15 = .ok (.iload_n 1, 1) := fdd_d (by decide +kernel)
set_option maxRecDepth 100000 in
theorem xd_60acff5e : decode (ia_code 10) 16 = .ok (.putfield 105, 3) := fdd_d (by decide +kernel)
set_option maxRecDepth 100000 in
theorem xf_f8c20c0a : wk_pf 10 105 0 1 0 = true := by decide +kernel
set_option maxRecDepth 100000 in
theorem xd_50a90a2d : decode (ia_code 10) 19 = .ok (.iconst 1, 1) := fdd_d (by decide +kernel)
set_option maxRecDepth 100000 in
theorem xd_29eef613 : decode (ia_code 10) 20 = .ok (.ireturn, 1) := fdd_d (by decide +kernel)
set_option maxRecDepth 100000 in
theorem xm_8efe34db : ia_maxL 10 = 2 := by decide +kernel
set_option maxRecDepth 100000 in
theorem xd_2db1a4e5 : decode (ia_code 102) 0 = .ok (.aload_n 0, 1) := fdd_d (by decide +kernel)
set_option maxRecDepth 100000 in
theorem xd_5c523216 : decode (ia_code 102) 1 = .ok (.iconst 0, 1) := fdd_d (by decide +kernel)
set_option maxRecDepth 100000 in
theorem xd_c5617b83 : decode (ia_code 102) 2 = .ok (.putfield 1, 3) := fdd_d (by decide +kernel)
set_option maxRecDepth 100000 in
theorem xf_45c36bbd : wk_pf 102 1 184 0 0 = true := by decide +kernel
set_option maxRecDepth 100000 in
theorem xd_d1fd157f : decode (ia_code 102) 5 = .ok (.iload_n 1, 1) := fdd_d (by decide +kernel)
set_option maxRecDepth 100000 in
theorem xd_ed92e9b7 : decode (ia_code 102) 6 = .ok (.ifCond .lt 11, 3) := fdd_d (by decide +kernel)
set_option maxRecDepth 100000 in
theorem xd_d0de0954 : decode (ia_code 102) 17 = .ok (.iconst 0, 1) := fdd_d (by decide +kernel)
set_option maxRecDepth 100000 in
theorem xd_4c738b65 : decode (ia_code 102) 18 = .ok (.ireturn, 1) := fdd_d (by decide +kernel)
set_option maxRecDepth 100000 in
theorem xr_9ec991e2 : ia_ret 102 = some .boolean := by decide +kernel
set_option maxRecDepth 100000 in
theorem xd_d118f7ca : decode (ia_code 102) 9 = .ok (.iload_n 1, 1) := fdd_d (by decide +kernel)
set_option maxRecDepth 100000 in
theorem xd_58257a18 : decode (ia_code 102) 10 = .ok (.aload_n 0, 1) := fdd_d (by decide +kernel)
set_option maxRecDepth 100000 in
theorem xd_663e0d02 : decode (ia_code 102) 11 = .ok (.getfield 7, 3) := fdd_d (by decide +kernel)
set_option maxRecDepth 100000 in
theorem xf_656ccc86 : wk_gf 102 7 184 2 0 = true := by decide +kernel
set_option maxRecDepth 100000 in
theorem xd_c7772582 : decode (ia_code 102) 14 = .ok (.if_icmp .le 5, 3) := fdd_d (by decide +kernel)
set_option maxRecDepth 100000 in
theorem xd_c3efd3ea : decode (ia_code 102) 19 = .ok (.aload_n 0, 1) := fdd_d (by decide +kernel)
set_option maxRecDepth 100000 in
theorem xd_675829ed : decode (ia_code 102) 20 = .ok (.iload_n 1, 1) := fdd_d (by decide +kernel)
set_option maxRecDepth 100000 in
theorem xd_e4ab8b27 : decode (ia_code 102) 21 = .ok (.putfield 7, 3) := fdd_d (by decide +kernel)
set_option maxRecDepth 100000 in
theorem xf_12a7d264 : wk_pf 102 7 184 2 0 = true := by decide +kernel
set_option maxRecDepth 100000 in
theorem xd_a223b499 : decode (ia_code 102) 24 = .ok (.iconst 1, 1) := fdd_d (by decide +kernel)
set_option maxRecDepth 100000 in
theorem xd_dddaa876 : decode (ia_code 102) 25 = .ok (.ireturn, 1) := fdd_d (by decide +kernel)
set_option maxRecDepth 100000 in
theorem xm_df034035 : ia_maxL 102 = 2 := by decide +kernel
set_option maxRecDepth 100000 in
theorem xg_33057bff : sv_g sg 1 0 = (2147483648, 2147483903) := by decide +kernel
set_option maxRecDepth 100000 in
theorem xg_32b086e2 : sv_g sg 1 1 = (2147483648, 2147483903) := by decide +kernel
set_option maxRecDepth 100000 in
theorem xd_a72f46de : decode (ia_code 3) 0 = .ok (.aload_n 0, 1) := fdd_d (by decide +kernel)
set_option maxRecDepth 100000 in
theorem xd_05ec7e20 : decode (ia_code 3) 1 = .ok (.getfield 105, 3) := fdd_d (by decide +kernel)
set_option maxRecDepth 100000 in
theorem xf_bc016233 : wk_gf 3 105 0 1 0 = true := by decide +kernel
set_option maxRecDepth 100000 in
theorem xd_95db6f2c : decode (ia_code 3) 4 = .ok (.istore_n 1, 1) := fdd_d (by decide +kernel)
set_option maxRecDepth 100000 in
theorem xm_7d437b01 : ia_maxL 3 = 2 := by decide +kernel
set_option maxRecDepth 100000 in
theorem xd_3c000d99 : decode (ia_code 3) 5 = .ok (.aload_n 0, 1) := fdd_d (by decide +kernel)
set_option maxRecDepth 100000 in
theorem xd_c2a0db4d : decode (ia_code 3) 6 = .ok (.iconst 0, 1) := fdd_d (by decide +kernel)
set_option maxRecDepth 100000 in
theorem xd_658efa35 : decode (ia_code 3) 7 = .ok (.putfield 105, 3) := fdd_d (by decide +kernel)
set_option maxRecDepth 100000 in
theorem xf_9e02f687 : wk_pf 3 105 0 1 0 = true := by decide +kernel
set_option maxRecDepth 100000 in
theorem xd_8ec7f703 : decode (ia_code 3) 10 = .ok (.iload_n 1, 1) := fdd_d (by decide +kernel)
set_option maxRecDepth 100000 in
theorem xd_5271e28f : decode (ia_code 3) 11 = .ok (.iconst 2, 1) := fdd_d (by decide +kernel)
set_option maxRecDepth 100000 in
theorem xd_27e540bf : decode (ia_code 3) 12 = .ok (.if_icmp .ne 15, 3) := fdd_d (by decide +kernel)
set_option maxRecDepth 100000 in
theorem xd_9f84d641 : decode (ia_code 3) 27 = .ok (.iconst (-1), 1) := fdd_d (by decide +kernel)
set_option maxRecDepth 100000 in
theorem xd_8e20f13e : decode (ia_code 3) 28 = .ok (.ireturn, 1) := fdd_d (by decide +kernel)
set_option maxRecDepth 100000 in
theorem xr_a2268891 : ia_ret 3 = some .int := by decide +kernel
set_option maxRecDepth 100000 in
theorem xd_728b4699 : decode (ia_code 3) 15 = .ok (.aload_n 0, 1) := fdd_d (by decide +kernel)
set_option maxRecDepth 100000 in
theorem xd_9aa062e6 : decode (ia_code 3) 16 = .ok (.getfield 9, 3) := fdd_d (by decide +kernel)
set_option maxRecDepth 100000 in
theorem xf_25bea5a3 : wk_gf 3 9 0 0 (1 + 3) = true := by decide +kernel
set_option maxRecDepth 100000 in
theorem xd_91f297ef : decode (ia_code 3) 19 = .ok (.iconst 0, 1) := fdd_d (by decide +kernel)
set_option maxRecDepth 100000 in
theorem xd_ec213cb0 : decode (ia_code 3) 20 = .ok (.iaload, 1) := fdd_d (by decide +kernel)
set_option maxRecDepth 100000 in
theorem xf_97ae57c2 : wk_ar 1 50 940 = true := by decide +kernel
set_option maxRecDepth 100000 in
theorem xd_a526c46c : decode (ia_code 3) 21 = .ok (.sipush 199, 3) := fdd_d (by decide +kernel)
set_option maxRecDepth 100000 in
theorem xd_59cfc7ba : decode (ia_code 3) 24 = .ok (.if_icmp .le 5, 3) := fdd_d (by decide +kernel)
set_option maxRecDepth 100000 in
theorem xd_2a700d04 : decode (ia_code 3) 29 = .ok (.aload_n 0, 1) := fdd_d (by decide +kernel)
set_option maxRecDepth 100000 in
theorem xd_9eeead6d : decode (ia_code 3) 30 = .ok (.getfield 100, 3) := fdd_d (by decide +kernel)
set_option maxRecDepth 100000 in
theorem xf_8b16a91d : wk_gf 3 100 0 16 (128 + 3) = true := by decide +kernel
set_option maxRecDepth 100000 in
theorem xd_467af8ec : decode (ia_code 3) 33 = .ok (.aload_n 0, 1) := fdd_d (by decide +kernel)
set_option maxRecDepth 100000 in
theorem xd_bfc3a086 : decode (ia_code 3) 34 = .ok (.getfield 25, 3) := fdd_d (by decide +kernel)
set_option maxRecDepth 100000 in
theorem xf_f84a9dbe : wk_gf 3 25 0 4 (4 + 3) = true := by decide +kernel
set_option maxRecDepth 100000 in
theorem xd_4626597f : decode (ia_code 3) 37 = .ok (.aload_n 0, 1) := fdd_d (by decide +kernel)
set_option maxRecDepth 100000 in
theorem xd_68f62a55 : decode (ia_code 3) 38 = .ok (.getfield 9, 3) := fdd_d (by decide +kernel)
set_option maxRecDepth 100000 in
theorem xd_b39efaa8 : decode (ia_code 3) 41 = .ok (.iconst 0, 1) := fdd_d (by decide +kernel)
set_option maxRecDepth 100000 in
theorem xd_d0d24ffa : decode (ia_code 3) 42 = .ok (.iaload, 1) := fdd_d (by decide +kernel)
set_option maxRecDepth 100000 in
theorem xd_7762cf9b : decode (ia_code 3) 43 = .ok (.aload_n 0, 1) := fdd_d (by decide +kernel)
set_option maxRecDepth 100000 in
theorem xd_1dad741c : decode (ia_code 3) 44 = .ok (.getfield 9, 3) := fdd_d (by decide +kernel)
set_option maxRecDepth 100000 in
theorem xd_fc0f8998 : decode (ia_code 3) 47 = .ok (.iconst 1, 1) := fdd_d (by decide +kernel)
set_option maxRecDepth 100000 in
theorem xd_87c7efc4 : decode (ia_code 3) 48 = .ok (.iaload, 1) := fdd_d (by decide +kernel)
set_option maxRecDepth 100000 in
theorem xs_178_4db13928 {a2 : Int32} {a3 : Int32} {w : cm_W} (h2 : 0 ≤ a2.toInt ∧ a2.toInt ≤ 255) (h3 : 0 ≤ a3.toInt ∧ a3.toInt ≤ 255) (hG : sv_w sg w) : ∃ x : Int32, ∃ w' : cm_W, cm_C 3 178 [.inr (.inr (some 128)), .inr (.inr (some 4)), .inl a2, .inl a3] w (some (.inl x), w') ∧ sv_w sg w' ∧ (∀ k i, ¬ ((k = 128 ∧ 0 ≤ i ∧ i ≤ 1) ∨ (k = 129 ∧ 0 ≤ i ∧ i ≤ 3)) → w'.1 k i = w.1 k i ∧ w'.2 k i = w.2 k i) ∧ (((-2147483648) ≤ x.toInt ∧ x.toInt ≤ 2147483647)) := by
  obtain ⟨r, w', hC, hG', hF, q, hq, hr, hp, hs⟩ := wk_use (d := 3) sm_178_4db13928_ok (by decide) (as := [.inr (.inr (some 128)), .inr (.inr (some 4)), .inl a2, .inl a3]) (w := w) ⟨rfl, rfl, hb_mk (lo := 2147483648) (hi := 2147483903) (by have := h2.1; omega) (by have := h2.2; omega), hb_mk (lo := 2147483648) (hi := 2147483903) (by have := h3.1; omega) (by have := h3.2; omega), trivial⟩ (fun f hf => by
    cases hf) hG
  have hfr : ∀ k i, ¬ ((k = 128 ∧ 0 ≤ i ∧ i ≤ 1) ∨ (k = 129 ∧ 0 ≤ i ∧ i ≤ 3)) → w'.1 k i = w.1 k i ∧ w'.2 k i = w.2 k i := fun k i hki => hF k i (fun ⟨r, z, z1, z2, z3⟩ => by
    simp only [sm_178_4db13928, List.mem_cons, List.not_mem_nil, or_false] at z
    rcases z with rfl | rfl
    all_goals (simp only at z1 z2 z3; omega))
  simp only [sm_178_4db13928, List.mem_cons, List.not_mem_nil, or_false] at hq
  rcases hq with rfl
  · obtain ⟨x, rfl, hx⟩ := wk_int hr
    have hx := hb_in hx
    exact ⟨x, w', hC, hG', hfr, ⟨by omega, by omega⟩⟩
set_option maxRecDepth 100000 in
theorem xl_679debe9 : ia_pl (ia_cls 3) 323 = some (1, 178, 0, 0, 1101) := by decide +kernel
set_option maxRecDepth 100000 in
theorem xn_1d683f9d : ia_na 178 = 4 := by decide +kernel
set_option maxRecDepth 100000 in
theorem xc_ac32f21e : ia_mc 178 = 0 ∧ ia_ms 178 = 0 := ⟨by decide +kernel, by decide +kernel⟩
set_option maxRecDepth 100000 in
theorem xv_87fe7086 : cm_rcv 178 [.inr (.inr (some 128))] = true := by decide +kernel
set_option maxRecDepth 100000 in
theorem xd_bd7e6ae8 : decode (ia_code 3) 49 = .ok (.invokevirtual 323, 3) := fdd_d (by decide +kernel)
set_option maxRecDepth 100000 in
theorem xd_2acfc775 : decode (ia_code 3) 52 = .ok (.ireturn, 1) := fdd_d (by decide +kernel)
/-- what is so between two calls -/
def jIw (r : Nat) (w : cm_W) : Prop := sv_w sg w ∧ hPs w ∧ hPk w 0 0 ∧ hPk w 301 1 ∧ jCl w ∧ jR 106 w ∧ jR 152 w ∧ jR 179 w ∧ ∃ T : Int, 0 ≤ T ∧ T ≤ 200 * (r : Int) ∧ (w.1 121 10).toInt = T ∧ ∀ i, i < 7776 → 0 ≤ (w.1 127 i).toInt ∧ (w.1 127 i).toInt ≤ 32 * T + 31
/-- the slots that it speaks of -/
def jSpp (k i : Nat) : Prop := jSup k i ∨ (k = 186 ∧ 120 ≤ i) ∨ k = 201 ∨ k = 203 ∨ (k = 106 ∧ i = 1) ∨ k = 107 ∨ k = 109 ∨ (k = 152 ∧ i = 1) ∨ k = 153 ∨ k = 155 ∨ (k = 179 ∧ i = 1) ∨ k = 180 ∨ k = 182 ∨ (k = 121 ∧ i = 10) ∨ k = 127
theorem jIw_mk {r : Nat} {w w' : cm_W} (h : jIw r w) (hG : sv_w sg w') (h1 : hPs w') (h2 : hPk w' 0 0) (h3 : hPk w' 301 1) (h4 : jCl w') (h5 : jR 106 w') (h6 : jR 152 w') (h7 : jR 179 w') (hm : ∀ k i, (k = 121 ∧ i = 10) ∨ k = 127 → w'.1 k i = w.1 k i) : jIw (r + 1) w' := by
  obtain ⟨-, -, -, -, -, -, -, -, T, t1, t2, t3, t4⟩ := h
  exact ⟨hG, h1, h2, h3, h4, h5, h6, h7, T, t1, by omega, by rw [hm 121 10 (by omega)]; exact t3, fun i hi => by rw [hm 127 i (by omega)]; exact t4 i hi⟩
theorem jIw_fr {r : Nat} {w w' : cm_W} (hF : ∀ k i, jSpp k i → w'.1 k i = w.1 k i) (hG : sv_w sg w') (h : jIw r w) : jIw (r + 1) w' := by
  unfold jSpp at hF
  obtain ⟨-, p1, p2, p3, p4, p5, p6, p7, -⟩ := id h
  exact jIw_mk h hG (hPs_fr2 (fun i hi => hF 186 i (by omega)) p1) (hPk_fr (fun j _ => hF 201 _ (by omega)) (hF 203 0 (by omega)) p2) (hPk_fr (fun j _ => hF 201 _ (by omega)) (hF 203 1 (by omega)) p3) (jCl_fr (fun k i hs => hF k i (.inl hs)) p4) (jR_eq (hF 106 1 (by omega)) (fun i _ => hF 107 i (by omega)) (fun i _ => hF 109 i (by omega)) p5) (jR_eq (hF 152 1 (by omega)) (fun i _ => hF 153 i (by omega)) (fun i _ => hF 155 i (by omega)) p6) (jR_eq (hF 179 1 (by omega)) (fun i _ => hF 180 i (by omega)) (fun i _ => hF 182 i (by omega)) p7) (fun k i hk => hF k i (by omega))
/-- the images' marks stay -/
def jFs (w w' : cm_W) : Prop := w'.1 130 0 = w.1 130 0 ∧ w'.1 157 0 = w.1 157 0 ∧ w'.1 203 0 = w.1 203 0 ∧ w'.1 203 1 = w.1 203 1
/-- the slots that hold tapes, valleys and images -/
def jQ1 (k i : Nat) : Prop := k = 1 ∨ (4 ≤ k ∧ k ≤ 17) ∨ (k = 130 ∧ i = 0) ∨ (131 ≤ k ∧ k ≤ 144) ∨ (k = 157 ∧ i = 0) ∨ (158 ≤ k ∧ k ≤ 171) ∨ k = 185 ∨ (k = 186 ∧ i < 79) ∨ k = 201 ∨ k = 203
def jFl (w w' : cm_W) : Prop := ∀ k i, jQ1 k i → w'.1 k i = w.1 k i
theorem jFl_rf {w : cm_W} : jFl w w := fun _ _ _ => rfl
theorem ix_fault {r : Nat} {w : cm_W} (hr : r ≤ 4000) (h : jIw r w) : ∃ x w', cm_C 24 11 [.inr (.inr (some 0))] w (some (.inl x), w') ∧ jIw (r + 1) w' ∧ w'.1 184 2 = w.1 184 2 ∧ w'.1 0 1 = w.1 0 1 ∧ jFl w w' := by
  obtain ⟨hG, p1, p2, p3, p4, p5, p6, p7, T, t1, t2, t3, t4⟩ := id h
  obtain ⟨x, hC, -⟩ := xs_11_19eb1342 (w := w) hG
  exact ⟨x, w, cm_C_mono (by decide) hC, jIw_fr (fun _ _ _ => rfl) hG h, rfl, rfl, jFl_rf⟩
theorem ix_food {r : Nat} {w : cm_W} {a1 : Int32} {a2 : Int32} (hr : r ≤ 4000) (h : jIw r w) : ∃ x w', cm_C 24 14 [.inr (.inr (some 0)), .inl a1, .inl a2] w (some (.inl x), w') ∧ jIw (r + 1) w' ∧ w'.1 184 2 = w.1 184 2 ∧ w'.1 0 1 = w.1 0 1 ∧ jFl w w' := by
  obtain ⟨hG, p1, p2, p3, p4, p5, p6, p7, T, t1, t2, t3, t4⟩ := id h
  obtain ⟨x, hC, -⟩ := xs_14_96cac3f7 (w := w) (a1 := a1) (a2 := a2) hG
  exact ⟨x, w, cm_C_mono (by decide) hC, jIw_fr (fun _ _ _ => rfl) hG h, rfl, rfl, jFl_rf⟩
theorem ix_meeting {r : Nat} {w : cm_W} {a1 : Int32} {a2 : Int32} (hr : r ≤ 4000) (h : jIw r w) : ∃ x w', cm_C 24 28 [.inr (.inr (some 0)), .inl a1, .inl a2] w (some (.inl x), w') ∧ jIw (r + 1) w' ∧ w'.1 184 2 = w.1 184 2 ∧ w'.1 0 1 = w.1 0 1 ∧ jFl w w' := by
  obtain ⟨hG, p1, p2, p3, p4, p5, p6, p7, T, t1, t2, t3, t4⟩ := id h
  obtain ⟨x, hC, -⟩ := xs_28_96cac3f7 (w := w) (a1 := a1) (a2 := a2) hG
  exact ⟨x, w, cm_C_mono (by decide) hC, jIw_fr (fun _ _ _ => rfl) hG h, rfl, rfl, jFl_rf⟩
theorem ix_now {r : Nat} {w : cm_W} {a1 : Int32} (hr : r ≤ 4000) (h : jIw r w) : ∃ x w', cm_C 24 30 [.inr (.inr (some 0)), .inl a1] w (some (.inl x), w') ∧ jIw (r + 1) w' ∧ w'.1 184 2 = w.1 184 2 ∧ w'.1 0 1 = w.1 0 1 ∧ jFl w w' := by
  obtain ⟨hG, p1, p2, p3, p4, p5, p6, p7, T, t1, t2, t3, t4⟩ := id h
  obtain ⟨x, hC, -⟩ := xs_30_ef2370ea (w := w) (a1 := a1) hG
  exact ⟨x, w, cm_C_mono (by decide) hC, jIw_fr (fun _ _ _ => rfl) hG h, rfl, rfl, jFl_rf⟩
theorem ix_on {r : Nat} {w : cm_W} {a1 : Int32} (hr : r ≤ 4000) (h : jIw r w) : ∃ x w', cm_C 24 32 [.inr (.inr (some 0)), .inl a1] w (some (.inl x), w') ∧ jIw (r + 1) w' ∧ w'.1 184 2 = w.1 184 2 ∧ w'.1 0 1 = w.1 0 1 ∧ jFl w w' := by
  obtain ⟨hG, p1, p2, p3, p4, p5, p6, p7, T, t1, t2, t3, t4⟩ := id h
  obtain ⟨x, hC, -⟩ := xs_32_ef2370ea (w := w) (a1 := a1) hG
  exact ⟨x, w, cm_C_mono (by decide) hC, jIw_fr (fun _ _ _ => rfl) hG h, rfl, rfl, jFl_rf⟩
theorem ix_common {r : Nat} {w : cm_W} (hr : r ≤ 4000) (h : jIw r w) : ∃ x w', cm_C 24 6 [.inr (.inr (some 0))] w (some (.inl x), w') ∧ jIw (r + 1) w' ∧ w'.1 184 2 = w.1 184 2 ∧ w'.1 0 1 = w.1 0 1 ∧ jFl w w' := by
  obtain ⟨hG, p1, p2, p3, p4, p5, p6, p7, T, t1, t2, t3, t4⟩ := id h
  obtain ⟨x, hC, -⟩ := xs_6_19eb1342 (w := w) hG
  exact ⟨x, w, cm_C_mono (by decide) hC, jIw_fr (fun _ _ _ => rfl) hG h, rfl, rfl, jFl_rf⟩
theorem ix_plate {r : Nat} {w : cm_W} {a1 : Int32} (hr : r ≤ 4000) (h : jIw r w) : ∃ x w', cm_C 24 35 [.inr (.inr (some 0)), .inl a1] w (some (.inl x), w') ∧ jIw (r + 1) w' ∧ w'.1 184 2 = w.1 184 2 ∧ w'.1 0 1 = w.1 0 1 ∧ jFl w w' := by
  obtain ⟨hG, p1, p2, p3, p4, p5, p6, p7, T, t1, t2, t3, t4⟩ := id h
  obtain ⟨x, hC, -⟩ := xs_35_ef2370ea (w := w) (a1 := a1) hG
  exact ⟨x, w, cm_C_mono (by decide) hC, jIw_fr (fun _ _ _ => rfl) hG h, rfl, rfl, jFl_rf⟩
theorem ix_feast {r : Nat} {w : cm_W} (hr : r ≤ 4000) (h : jIw r w) : ∃ x w', cm_C 24 12 [.inr (.inr (some 0))] w (some (.inl x), w') ∧ jIw (r + 1) w' ∧ w'.1 184 2 = w.1 184 2 ∧ w'.1 0 1 = w.1 0 1 ∧ jFl w w' := by
  obtain ⟨hG, p1, p2, p3, p4, p5, p6, p7, T, t1, t2, t3, t4⟩ := id h
  obtain ⟨x, hC, -⟩ := xs_12_19eb1342 (w := w) hG
  exact ⟨x, w, cm_C_mono (by decide) hC, jIw_fr (fun _ _ _ => rfl) hG h, rfl, rfl, jFl_rf⟩
theorem ix_surely {r : Nat} {w : cm_W} (hr : r ≤ 4000) (h : jIw r w) : ∃ x w', cm_C 24 42 [.inr (.inr (some 0))] w (some (.inl x), w') ∧ jIw (r + 1) w' ∧ w'.1 184 2 = w.1 184 2 ∧ w'.1 0 1 = w.1 0 1 ∧ jFl w w' := by
  obtain ⟨hG, p1, p2, p3, p4, p5, p6, p7, T, t1, t2, t3, t4⟩ := id h
  obtain ⟨x, hC, -⟩ := xs_42_19eb1342 (w := w) hG
  exact ⟨x, w, cm_C_mono (by decide) hC, jIw_fr (fun _ _ _ => rfl) hG h, rfl, rfl, jFl_rf⟩
theorem ix_ask {r : Nat} {w : cm_W} (hr : r ≤ 4000) (h : jIw r w) : ∃ x w', cm_C 24 2 [.inr (.inr (some 0))] w (some (.inl x), w') ∧ jIw (r + 1) w' ∧ w'.1 184 2 = w.1 184 2 ∧ w'.1 0 1 = w.1 0 1 ∧ jFl w w' := by
  obtain ⟨hG, p1, p2, p3, p4, p5, p6, p7, T, t1, t2, t3, t4⟩ := id h
  obtain ⟨x, hC, -⟩ := xs_2_19eb1342 (w := w) hG
  exact ⟨x, w, cm_C_mono (by decide) hC, jIw_fr (fun _ _ _ => rfl) hG h, rfl, rfl, jFl_rf⟩
theorem ix_twins {r : Nat} {w : cm_W} {a1 : Int32} {a2 : Int32} (hr : r ≤ 4000) (h : jIw r w) : ∃ x w', cm_C 24 45 [.inr (.inr (some 0)), .inl a1, .inl a2] w (some (.inl x), w') ∧ jIw (r + 1) w' ∧ w'.1 184 2 = w.1 184 2 ∧ w'.1 0 1 = w.1 0 1 ∧ jFl w w' := by
  obtain ⟨hG, p1, p2, p3, p4, p5, p6, p7, T, t1, t2, t3, t4⟩ := id h
  obtain ⟨x, w', hC, hG', hF, -⟩ := xs_45_96cac3f7 (w := w) (a1 := a1) (a2 := a2) hG
  exact ⟨x, w', cm_C_mono (by decide) hC, jIw_fr (fun k i hs => by unfold jSpp jSup at hs; exact (hF k i (by omega)).1) hG' h, (hF 184 2 (by omega)).1, (hF 0 1 (by omega)).1, fun k i hq => by unfold jQ1 at hq; exact (hF k i (by omega)).1⟩
theorem ix_late {r : Nat} {w : cm_W} {a1 : Int32} (hr : r ≤ 4000) (h : jIw r w) : ∃ x w', cm_C 24 25 [.inr (.inr (some 0)), .inl a1] w (some (.inl x), w') ∧ jIw (r + 1) w' ∧ w'.1 184 2 = w.1 184 2 ∧ w'.1 0 1 = w.1 0 1 ∧ jFl w w' := by
  obtain ⟨hG, p1, p2, p3, p4, p5, p6, p7, T, t1, t2, t3, t4⟩ := id h
  obtain ⟨x, w', hC, hG', hF, -⟩ := xs_25_ef2370ea (w := w) (a1 := a1) hG
  exact ⟨x, w', cm_C_mono (by decide) hC, jIw_fr (fun k i hs => by unfold jSpp jSup at hs; exact (hF k i (by omega)).1) hG' h, (hF 184 2 (by omega)).1, (hF 0 1 (by omega)).1, fun k i hq => by unfold jQ1 at hq; exact (hF k i (by omega)).1⟩
theorem ix_share {r : Nat} {w : cm_W} {a1 : Int32} {a2 : Int32} (hr : r ≤ 4000) (h : jIw r w) : ∃ x w', cm_C 24 40 [.inr (.inr (some 0)), .inl a1, .inl a2] w (some (.inl x), w') ∧ jIw (r + 1) w' ∧ w'.1 184 2 = w.1 184 2 ∧ w'.1 0 1 = w.1 0 1 ∧ jFl w w' := by
  obtain ⟨hG, p1, p2, p3, p4, p5, p6, p7, T, t1, t2, t3, t4⟩ := id h
  obtain ⟨x, hC, -⟩ := xs_40_96cac3f7 (w := w) (a1 := a1) (a2 := a2) hG
  exact ⟨x, w, cm_C_mono (by decide) hC, jIw_fr (fun _ _ _ => rfl) hG h, rfl, rfl, jFl_rf⟩
theorem ix_clash {r : Nat} {w : cm_W} {a1 : Int32} (hr : r ≤ 4000) (h : jIw r w) : ∃ x w', cm_C 24 5 [.inr (.inr (some 0)), .inl a1] w (some (.inl x), w') ∧ jIw (r + 1) w' ∧ w'.1 184 2 = w.1 184 2 ∧ w'.1 0 1 = w.1 0 1 ∧ jFl w w' := by
  obtain ⟨hG, p1, p2, p3, p4, p5, p6, p7, T, t1, t2, t3, t4⟩ := id h
  obtain ⟨x, hC, -⟩ := xs_5_ef2370ea (w := w) (a1 := a1) hG
  exact ⟨x, w, cm_C_mono (by decide) hC, jIw_fr (fun _ _ _ => rfl) hG h, rfl, rfl, jFl_rf⟩
theorem ix_later {r : Nat} {w : cm_W} {a1 : Int32} {a2 : Int32} (hr : r ≤ 4000) (h : jIw r w) : ∃ x w', cm_C 24 26 [.inr (.inr (some 0)), .inl a1, .inl a2] w (some (.inl x), w') ∧ jIw (r + 1) w' ∧ w'.1 184 2 = w.1 184 2 ∧ w'.1 0 1 = w.1 0 1 ∧ jFl w w' := by
  obtain ⟨hG, p1, p2, p3, p4, p5, p6, p7, T, t1, t2, t3, t4⟩ := id h
  obtain ⟨x, w', hC, hG', hF, -⟩ := xs_26_96cac3f7 (w := w) (a1 := a1) (a2 := a2) hG
  exact ⟨x, w', cm_C_mono (by decide) hC, jIw_fr (fun k i hs => by unfold jSpp jSup at hs; exact (hF k i (by omega)).1) hG' h, (hF 184 2 (by omega)).1, (hF 0 1 (by omega)).1, fun k i hq => by unfold jQ1 at hq; exact (hF k i (by omega)).1⟩
theorem ix_paid {r : Nat} {w : cm_W} {a1 : Int32} (hr : r ≤ 4000) (h : jIw r w) : ∃ x w', cm_C 24 34 [.inr (.inr (some 0)), .inl a1] w (some (.inl x), w') ∧ jIw (r + 1) w' ∧ w'.1 184 2 = w.1 184 2 ∧ w'.1 0 1 = w.1 0 1 ∧ jFl w w' := by
  obtain ⟨hG, p1, p2, p3, p4, p5, p6, p7, T, t1, t2, t3, t4⟩ := id h
  obtain ⟨x, w', hC, hG', hF, -⟩ := xs_34_ef2370ea (w := w) (a1 := a1) hG
  exact ⟨x, w', cm_C_mono (by decide) hC, jIw_fr (fun k i hs => by unfold jSpp jSup at hs; exact (hF k i (by omega)).1) hG' h, (hF 184 2 (by omega)).1, (hF 0 1 (by omega)).1, fun k i hq => by unfold jQ1 at hq; exact (hF k i (by omega)).1⟩
theorem ix_odds {r : Nat} {w : cm_W} {a1 : Int32} {a2 : Int32} {a3 : Int32} (hr : r ≤ 4000) (h : jIw r w) : ∃ x w', cm_C 24 31 [.inr (.inr (some 0)), .inl a1, .inl a2, .inl a3] w (some (.inl x), w') ∧ jIw (r + 1) w' ∧ w'.1 184 2 = w.1 184 2 ∧ w'.1 0 1 = w.1 0 1 ∧ jFl w w' := by
  obtain ⟨hG, p1, p2, p3, p4, p5, p6, p7, T, t1, t2, t3, t4⟩ := id h
  obtain ⟨x, w', hC, hG', hF, -⟩ := xs_31_1288ad07 (w := w) (a1 := a1) (a2 := a2) (a3 := a3) hG
  exact ⟨x, w', cm_C_mono (by decide) hC, jIw_fr (fun k i hs => by unfold jSpp jSup at hs; exact (hF k i (by omega)).1) hG' h, (hF 184 2 (by omega)).1, (hF 0 1 (by omega)).1, fun k i hq => by unfold jQ1 at hq; exact (hF k i (by omega)).1⟩
theorem ix_told {r : Nat} {w : cm_W} {a1 : Int32} (hr : r ≤ 4000) (h : jIw r w) : ∃ x w', cm_C 24 44 [.inr (.inr (some 0)), .inl a1] w (some (.inl x), w') ∧ jIw (r + 1) w' ∧ w'.1 184 2 = w.1 184 2 ∧ w'.1 0 1 = w.1 0 1 ∧ jFl w w' := by
  obtain ⟨hG, p1, p2, p3, p4, p5, p6, p7, T, t1, t2, t3, t4⟩ := id h
  obtain ⟨x, hC, -⟩ := xs_44_ef2370ea (w := w) (a1 := a1) hG
  exact ⟨x, w, cm_C_mono (by decide) hC, jIw_fr (fun _ _ _ => rfl) hG h, rfl, rfl, jFl_rf⟩
theorem ix_count {r : Nat} {w : cm_W} {a1 : Int32} (hr : r ≤ 4000) (h : jIw r w) : ∃ x w', cm_C 24 7 [.inr (.inr (some 0)), .inl a1] w (some (.inl x), w') ∧ jIw (r + 1) w' ∧ w'.1 184 2 = w.1 184 2 ∧ w'.1 0 1 = w.1 0 1 ∧ jFl w w' := by
  obtain ⟨hG, p1, p2, p3, p4, p5, p6, p7, T, t1, t2, t3, t4⟩ := id h
  obtain ⟨x, hC, -⟩ := xs_7_ef2370ea (w := w) (a1 := a1) hG
  exact ⟨x, w, cm_C_mono (by decide) hC, jIw_fr (fun _ _ _ => rfl) hG h, rfl, rfl, jFl_rf⟩
theorem ix_eat {r : Nat} {w : cm_W} {a1 : Int32} {a2 : Int32} (hr : r ≤ 4000) (h : jIw r w) : ∃ x w', cm_C 24 9 [.inr (.inr (some 0)), .inl a1, .inl a2] w (some (.inl x), w') ∧ jIw (r + 1) w' ∧ w'.1 184 2 = w.1 184 2 ∧ w'.1 0 1 = w.1 0 1 ∧ jFl w w' := by
  obtain ⟨hG, p1, p2, p3, p4, p5, p6, p7, T, t1, t2, t3, t4⟩ := id h
  obtain ⟨x, w', hC, hG', hc', hF⟩ := jc_eat (w := w) (a := a1) (b := a2) p4 hG
  exact ⟨x, w', cm_C_mono (by decide) hC, jIw_mk h hG' (hPs_fr2 (fun i _ => hF 186 i (by omega) (by omega) (by omega)) p1) (hPk_fr (fun j _ => hF 201 _ (by omega) (by omega) (by omega)) (hF 203 0 (by omega) (by omega) (by omega)) p2) (hPk_fr (fun j _ => hF 201 _ (by omega) (by omega) (by omega)) (hF 203 1 (by omega) (by omega) (by omega)) p3) hc' (jR_eq (hF 106 1 (by omega) (by omega) (by omega)) (fun i _ => hF _ i (by omega) (by omega) (by omega)) (fun i _ => hF _ i (by omega) (by omega) (by omega)) p5) (jR_eq (hF 152 1 (by omega) (by omega) (by omega)) (fun i _ => hF _ i (by omega) (by omega) (by omega)) (fun i _ => hF _ i (by omega) (by omega) (by omega)) p6) (jR_eq (hF 179 1 (by omega) (by omega) (by omega)) (fun i _ => hF _ i (by omega) (by omega) (by omega)) (fun i _ => hF _ i (by omega) (by omega) (by omega)) p7) (fun k i hk => hF k i (by omega) (by omega) (by omega)), hF 184 2 (by omega) (by omega) (by omega), hF 0 1 (by omega) (by omega) (by omega), fun k i hq => by unfold jQ1 at hq; exact hF k i (by omega) (by omega) (by omega)⟩
theorem ix_ail {r : Nat} {w : cm_W} {a1 : Int32} (hr : r ≤ 4000) (h : jIw r w) : ∃ x w', cm_C 24 1 [.inr (.inr (some 0)), .inl a1] w (some (.inl x), w') ∧ jIw (r + 1) w' ∧ w'.1 184 2 = w.1 184 2 ∧ w'.1 0 1 = w.1 0 1 ∧ jFl w w' := by
  obtain ⟨hG, p1, p2, p3, p4, p5, p6, p7, T, t1, t2, t3, t4⟩ := id h
  obtain ⟨x, w', hC, hG', hc', hF⟩ := jc_ail (w := w) (a := a1) p4 hG
  exact ⟨x, w', cm_C_mono (by decide) hC, jIw_mk h hG' (hPs_fr2 (fun i _ => hF 186 i (by omega) (by omega) (by omega)) p1) (hPk_fr (fun j _ => hF 201 _ (by omega) (by omega) (by omega)) (hF 203 0 (by omega) (by omega) (by omega)) p2) (hPk_fr (fun j _ => hF 201 _ (by omega) (by omega) (by omega)) (hF 203 1 (by omega) (by omega) (by omega)) p3) hc' (jR_eq (hF 106 1 (by omega) (by omega) (by omega)) (fun i _ => hF _ i (by omega) (by omega) (by omega)) (fun i _ => hF _ i (by omega) (by omega) (by omega)) p5) (jR_eq (hF 152 1 (by omega) (by omega) (by omega)) (fun i _ => hF _ i (by omega) (by omega) (by omega)) (fun i _ => hF _ i (by omega) (by omega) (by omega)) p6) (jR_eq (hF 179 1 (by omega) (by omega) (by omega)) (fun i _ => hF _ i (by omega) (by omega) (by omega)) (fun i _ => hF _ i (by omega) (by omega) (by omega)) p7) (fun k i hk => hF k i (by omega) (by omega) (by omega)), hF 184 2 (by omega) (by omega) (by omega), hF 0 1 (by omega) (by omega) (by omega), fun k i hq => by unfold jQ1 at hq; exact hF k i (by omega) (by omega) (by omega)⟩
theorem ix_mend {r : Nat} {w : cm_W} {a1 : Int32} (hr : r ≤ 4000) (h : jIw r w) : ∃ x w', cm_C 24 29 [.inr (.inr (some 0)), .inl a1] w (some (.inl x), w') ∧ jIw (r + 1) w' ∧ w'.1 184 2 = w.1 184 2 ∧ w'.1 0 1 = w.1 0 1 ∧ jFl w w' := by
  obtain ⟨hG, p1, p2, p3, p4, p5, p6, p7, T, t1, t2, t3, t4⟩ := id h
  obtain ⟨x, w', hC, hG', hc', hF⟩ := jc_mend (w := w) (a := a1) p4 hG
  exact ⟨x, w', cm_C_mono (by decide) hC, jIw_mk h hG' (hPs_fr2 (fun i _ => hF 186 i (by omega) (by omega) (by omega)) p1) (hPk_fr (fun j _ => hF 201 _ (by omega) (by omega) (by omega)) (hF 203 0 (by omega) (by omega) (by omega)) p2) (hPk_fr (fun j _ => hF 201 _ (by omega) (by omega) (by omega)) (hF 203 1 (by omega) (by omega) (by omega)) p3) hc' (jR_eq (hF 106 1 (by omega) (by omega) (by omega)) (fun i _ => hF _ i (by omega) (by omega) (by omega)) (fun i _ => hF _ i (by omega) (by omega) (by omega)) p5) (jR_eq (hF 152 1 (by omega) (by omega) (by omega)) (fun i _ => hF _ i (by omega) (by omega) (by omega)) (fun i _ => hF _ i (by omega) (by omega) (by omega)) p6) (jR_eq (hF 179 1 (by omega) (by omega) (by omega)) (fun i _ => hF _ i (by omega) (by omega) (by omega)) (fun i _ => hF _ i (by omega) (by omega) (by omega)) p7) (fun k i hk => hF k i (by omega) (by omega) (by omega)), hF 184 2 (by omega) (by omega) (by omega), hF 0 1 (by omega) (by omega) (by omega), fun k i hq => by unfold jQ1 at hq; exact hF k i (by omega) (by omega) (by omega)⟩
theorem ix_meet {r : Nat} {w : cm_W} {a1 : Int32} (hr : r ≤ 4000) (h : jIw r w) : ∃ x w', cm_C 24 27 [.inr (.inr (some 0)), .inl a1] w (some (.inl x), w') ∧ jIw (r + 1) w' ∧ w'.1 184 2 = w.1 184 2 ∧ w'.1 0 1 = w.1 0 1 ∧ jFl w w' := by
  obtain ⟨hG, p1, p2, p3, p4, p5, p6, p7, T, t1, t2, t3, t4⟩ := id h
  obtain ⟨x, w', hC, hG', hc', hF⟩ := jc_meet (w := w) (a := a1) p4 hG
  exact ⟨x, w', cm_C_mono (by decide) hC, jIw_mk h hG' (hPs_fr2 (fun i _ => hF 186 i (by omega) (by omega) (by omega)) p1) (hPk_fr (fun j _ => hF 201 _ (by omega) (by omega) (by omega)) (hF 203 0 (by omega) (by omega) (by omega)) p2) (hPk_fr (fun j _ => hF 201 _ (by omega) (by omega) (by omega)) (hF 203 1 (by omega) (by omega) (by omega)) p3) hc' (jR_eq (hF 106 1 (by omega) (by omega) (by omega)) (fun i _ => hF _ i (by omega) (by omega) (by omega)) (fun i _ => hF _ i (by omega) (by omega) (by omega)) p5) (jR_eq (hF 152 1 (by omega) (by omega) (by omega)) (fun i _ => hF _ i (by omega) (by omega) (by omega)) (fun i _ => hF _ i (by omega) (by omega) (by omega)) p6) (jR_eq (hF 179 1 (by omega) (by omega) (by omega)) (fun i _ => hF _ i (by omega) (by omega) (by omega)) (fun i _ => hF _ i (by omega) (by omega) (by omega)) p7) (fun k i hk => hF k i (by omega) (by omega) (by omega)), hF 184 2 (by omega) (by omega) (by omega), hF 0 1 (by omega) (by omega) (by omega), fun k i hq => by unfold jQ1 at hq; exact hF k i (by omega) (by omega) (by omega)⟩
theorem ix_hours {r : Nat} {w : cm_W} {a1 : Int32} (hr : r ≤ 4000) (h : jIw r w) : ∃ x w', cm_C 24 15 [.inr (.inr (some 0)), .inl a1] w (some (.inl x), w') ∧ jIw (r + 1) w' ∧ w'.1 184 2 = w.1 184 2 ∧ w'.1 0 1 = w.1 0 1 ∧ jFl w w' := by
  obtain ⟨hG, p1, p2, p3, p4, p5, p6, p7, T, t1, t2, t3, t4⟩ := id h
  obtain ⟨x, w', hC, hG', hc', hF⟩ := jc_hours (w := w) (a := a1) p4 hG
  exact ⟨x, w', cm_C_mono (by decide) hC, jIw_mk h hG' (hPs_fr2 (fun i _ => hF 186 i (by omega) (by omega) (by omega)) p1) (hPk_fr (fun j _ => hF 201 _ (by omega) (by omega) (by omega)) (hF 203 0 (by omega) (by omega) (by omega)) p2) (hPk_fr (fun j _ => hF 201 _ (by omega) (by omega) (by omega)) (hF 203 1 (by omega) (by omega) (by omega)) p3) hc' (jR_eq (hF 106 1 (by omega) (by omega) (by omega)) (fun i _ => hF _ i (by omega) (by omega) (by omega)) (fun i _ => hF _ i (by omega) (by omega) (by omega)) p5) (jR_eq (hF 152 1 (by omega) (by omega) (by omega)) (fun i _ => hF _ i (by omega) (by omega) (by omega)) (fun i _ => hF _ i (by omega) (by omega) (by omega)) p6) (jR_eq (hF 179 1 (by omega) (by omega) (by omega)) (fun i _ => hF _ i (by omega) (by omega) (by omega)) (fun i _ => hF _ i (by omega) (by omega) (by omega)) p7) (fun k i hk => hF k i (by omega) (by omega) (by omega)), hF 184 2 (by omega) (by omega) (by omega), hF 0 1 (by omega) (by omega) (by omega), fun k i hq => by unfold jQ1 at hq; exact hF k i (by omega) (by omega) (by omega)⟩
theorem ix_undo {r : Nat} {w : cm_W} (hr : r ≤ 4000) (h : jIw r w) : ∃ x w', cm_C 24 46 [.inr (.inr (some 0))] w (some (.inl x), w') ∧ jIw (r + 1) w' ∧ w'.1 184 2 = w.1 184 2 ∧ w'.1 0 1 = w.1 0 1 ∧ jFl w w' := by
  obtain ⟨hG, p1, p2, p3, p4, p5, p6, p7, T, t1, t2, t3, t4⟩ := id h
  obtain ⟨x, w', hC, hG', hc', hF⟩ := jc_undo (w := w) p4 hG
  exact ⟨x, w', cm_C_mono (by decide) hC, jIw_mk h hG' (hPs_fr2 (fun i _ => hF 186 i (by omega) (by omega) (by omega)) p1) (hPk_fr (fun j _ => hF 201 _ (by omega) (by omega) (by omega)) (hF 203 0 (by omega) (by omega) (by omega)) p2) (hPk_fr (fun j _ => hF 201 _ (by omega) (by omega) (by omega)) (hF 203 1 (by omega) (by omega) (by omega)) p3) hc' (jR_eq (hF 106 1 (by omega) (by omega) (by omega)) (fun i _ => hF _ i (by omega) (by omega) (by omega)) (fun i _ => hF _ i (by omega) (by omega) (by omega)) p5) (jR_eq (hF 152 1 (by omega) (by omega) (by omega)) (fun i _ => hF _ i (by omega) (by omega) (by omega)) (fun i _ => hF _ i (by omega) (by omega) (by omega)) p6) (jR_eq (hF 179 1 (by omega) (by omega) (by omega)) (fun i _ => hF _ i (by omega) (by omega) (by omega)) (fun i _ => hF _ i (by omega) (by omega) (by omega)) p7) (fun k i hk => hF k i (by omega) (by omega) (by omega)), hF 184 2 (by omega) (by omega) (by omega), hF 0 1 (by omega) (by omega) (by omega), fun k i hq => by unfold jQ1 at hq; exact hF k i (by omega) (by omega) (by omega)⟩
theorem ix_drawn {r : Nat} {w : cm_W} {a1 : Int32} {a2 : Int32} (hr : r ≤ 4000) (h : jIw r w) : ∃ x w', cm_C 24 8 [.inr (.inr (some 0)), .inl a1, .inl a2] w (some (.inl x), w') ∧ jIw (r + 1) w' ∧ w'.1 184 2 = w.1 184 2 ∧ w'.1 0 1 = w.1 0 1 ∧ jFl w w' := by
  obtain ⟨hG, p1, p2, p3, p4, p5, p6, p7, T, t1, t2, t3, t4⟩ := id h
  obtain ⟨x, w', hC, hG', hc', hF⟩ := jc_drawn (w := w) (a := a1) (b := a2) p4 hG
  exact ⟨x, w', cm_C_mono (by decide) hC, jIw_mk h hG' (hPs_fr2 (fun i _ => hF 186 i (by omega) (by omega) (by omega)) p1) (hPk_fr (fun j _ => hF 201 _ (by omega) (by omega) (by omega)) (hF 203 0 (by omega) (by omega) (by omega)) p2) (hPk_fr (fun j _ => hF 201 _ (by omega) (by omega) (by omega)) (hF 203 1 (by omega) (by omega) (by omega)) p3) hc' (jR_eq (hF 106 1 (by omega) (by omega) (by omega)) (fun i _ => hF _ i (by omega) (by omega) (by omega)) (fun i _ => hF _ i (by omega) (by omega) (by omega)) p5) (jR_eq (hF 152 1 (by omega) (by omega) (by omega)) (fun i _ => hF _ i (by omega) (by omega) (by omega)) (fun i _ => hF _ i (by omega) (by omega) (by omega)) p6) (jR_eq (hF 179 1 (by omega) (by omega) (by omega)) (fun i _ => hF _ i (by omega) (by omega) (by omega)) (fun i _ => hF _ i (by omega) (by omega) (by omega)) p7) (fun k i hk => hF k i (by omega) (by omega) (by omega)), hF 184 2 (by omega) (by omega) (by omega), hF 0 1 (by omega) (by omega) (by omega), fun k i hq => by unfold jQ1 at hq; exact hF k i (by omega) (by omega) (by omega)⟩
theorem ix_valley {r : Nat} {w : cm_W} (hr : r ≤ 4000) (h : jIw r w) : ∃ x w', cm_C 24 47 [.inr (.inr (some 0))] w (some (.inl x), w') ∧ jIw (r + 1) w' ∧ w'.1 184 2 = w.1 184 2 ∧ (w'.1 0 1).toInt = 0 ∧ jFs w w' := by
  obtain ⟨hG, p1, p2, p3, p4, p5, p6, p7, T, t1, t2, t3, t4⟩ := id h
  obtain ⟨x, w', hC, hG', hc', hR', hF, hz⟩ := jc_valley (w := w) p4 p5 hG
  exact ⟨x, w', cm_C_mono (by decide) hC, jIw_mk h hG' (hPs_fr2 (fun i _ => hF 186 i (by omega) (by omega) (by omega) (by omega) (by omega) (by omega)) p1) (hPk_fr (fun j _ => hF 201 _ (by omega) (by omega) (by omega) (by omega) (by omega) (by omega)) (hF 203 0 (by omega) (by omega) (by omega) (by omega) (by omega) (by omega)) p2) (hPk_fr (fun j _ => hF 201 _ (by omega) (by omega) (by omega) (by omega) (by omega) (by omega)) (hF 203 1 (by omega) (by omega) (by omega) (by omega) (by omega) (by omega)) p3) (hc') (hR') (jR_eq (hF 152 1 (by omega) (by omega) (by omega) (by omega) (by omega) (by omega)) (fun i _ => hF _ i (by omega) (by omega) (by omega) (by omega) (by omega) (by omega)) (fun i _ => hF _ i (by omega) (by omega) (by omega) (by omega) (by omega) (by omega)) p6) (jR_eq (hF 179 1 (by omega) (by omega) (by omega) (by omega) (by omega) (by omega)) (fun i _ => hF _ i (by omega) (by omega) (by omega) (by omega) (by omega) (by omega)) (fun i _ => hF _ i (by omega) (by omega) (by omega) (by omega) (by omega) (by omega)) p7) (fun k i hk => hF k i (by omega) (by omega) (by omega) (by omega) (by omega) (by omega)), hF 184 2 (by omega) (by omega) (by omega) (by omega) (by omega) (by omega), hz, hF 130 0 (by omega) (by omega) (by omega) (by omega) (by omega) (by omega), hF 157 0 (by omega) (by omega) (by omega) (by omega) (by omega) (by omega), hF 203 0 (by omega) (by omega) (by omega) (by omega) (by omega) (by omega), hF 203 1 (by omega) (by omega) (by omega) (by omega) (by omega) (by omega)⟩
theorem ix_sentence {r : Nat} {w : cm_W} (hr : r ≤ 4000) (h : jIw r w) : ∃ x w', cm_C 24 39 [.inr (.inr (some 0))] w (some (.inl x), w') ∧ jIw (r + 1) w' ∧ w'.1 184 2 = w.1 184 2 ∧ (w'.1 0 1).toInt = 0 ∧ jFl w w' := by
  obtain ⟨hG, p1, p2, p3, p4, p5, p6, p7, T, t1, t2, t3, t4⟩ := id h
  obtain ⟨x, w', hC, hG', hR', hF, hz⟩ := jc_sentence (w := w) p5 hG
  exact ⟨x, w', cm_C_mono (by decide) hC, jIw_mk h hG' (hPs_fr2 (fun i _ => hF 186 i (by omega) (by omega) (by omega)) p1) (hPk_fr (fun j _ => hF 201 _ (by omega) (by omega) (by omega)) (hF 203 0 (by omega) (by omega) (by omega)) p2) (hPk_fr (fun j _ => hF 201 _ (by omega) (by omega) (by omega)) (hF 203 1 (by omega) (by omega) (by omega)) p3) (jCl_fr (fun k i hs => by unfold jSup at hs; exact hF k i (by omega) (by omega) (by omega)) p4) (hR') (jR_eq (hF 152 1 (by omega) (by omega) (by omega)) (fun i _ => hF _ i (by omega) (by omega) (by omega)) (fun i _ => hF _ i (by omega) (by omega) (by omega)) p6) (jR_eq (hF 179 1 (by omega) (by omega) (by omega)) (fun i _ => hF _ i (by omega) (by omega) (by omega)) (fun i _ => hF _ i (by omega) (by omega) (by omega)) p7) (fun k i hk => hF k i (by omega) (by omega) (by omega)), hF 184 2 (by omega) (by omega) (by omega), hz, fun k i hq => by unfold jQ1 at hq; exact hF k i (by omega) (by omega) (by omega)⟩
theorem ix_image {r : Nat} {w : cm_W} {a1 : Int32} (hr : r ≤ 4000) (h : jIw r w) : ∃ x w', cm_C 24 17 [.inr (.inr (some 0)), .inl a1] w (some (.inl x), w') ∧ jIw (r + 1) w' ∧ w'.1 184 2 = w.1 184 2 ∧ w'.1 0 1 = w.1 0 1 ∧ ((a1.toInt = 0 ∧ x = Int32.ofInt 1 ∧ (w'.1 130 0).toInt = 1 ∧ w'.1 157 0 = w.1 157 0) ∨ (a1.toInt = 1 ∧ x = Int32.ofInt 1 ∧ (w'.1 157 0).toInt = 1 ∧ w'.1 130 0 = w.1 130 0) ∨ (¬ (0 ≤ a1.toInt ∧ a1.toInt ≤ 1) ∧ x = Int32.ofInt 0 ∧ w'.1 130 0 = w.1 130 0 ∧ w'.1 157 0 = w.1 157 0)) ∧ w'.1 203 0 = w.1 203 0 ∧ w'.1 203 1 = w.1 203 1 := by
  obtain ⟨hG, p1, p2, p3, p4, p5, p6, p7, T, t1, t2, t3, t4⟩ := id h
  obtain ⟨x, w', hC, hG', hc', r1, r2, r3, hF, hE⟩ := jc_image (w := w) (k := a1) p4 p5 p6 p7 hG
  exact ⟨x, w', cm_C_mono (by decide) hC, jIw_mk h hG' (hPs_fr2 (fun i _ => hF 186 i (by omega)) p1) (hPk_fr (fun j _ => hF 201 _ (by omega)) (hF 203 0 (by omega)) p2) (hPk_fr (fun j _ => hF 201 _ (by omega)) (hF 203 1 (by omega)) p3) (hc') (r1) (r2) (r3) (fun k i hk => hF k i (by omega)), hF 184 2 (by omega), hF 0 1 (by omega), hE, hF 203 0 (by omega), hF 203 1 (by omega)⟩
theorem ix_restore {r : Nat} {w : cm_W} {a1 : Int32} (hr : r ≤ 4000) (h : jIw r w) : ∃ x w', cm_C 24 37 [.inr (.inr (some 0)), .inl a1] w (some (.inl x), w') ∧ jIw (r + 1) w' ∧ w'.1 184 2 = w.1 184 2 ∧ w'.1 0 1 = w.1 0 1 ∧ ((a1.toInt = 0 ∧ (w.1 130 0).toInt ≠ 0 ∧ x = Int32.ofInt 1) ∨ (a1.toInt = 1 ∧ (w.1 157 0).toInt ≠ 0 ∧ x = Int32.ofInt 1) ∨ (¬ (a1.toInt = 0 ∧ (w.1 130 0).toInt ≠ 0) ∧ ¬ (a1.toInt = 1 ∧ (w.1 157 0).toInt ≠ 0) ∧ x = Int32.ofInt 0)) ∧ jFs w w' := by
  obtain ⟨hG, p1, p2, p3, p4, p5, p6, p7, T, t1, t2, t3, t4⟩ := id h
  obtain ⟨x, w', hC, hG', hc', r1, r2, r3, hF, hE⟩ := jc_restore (w := w) (k := a1) p4 p5 p6 p7 hG
  exact ⟨x, w', cm_C_mono (by decide) hC, jIw_mk h hG' (hPs_fr2 (fun i _ => hF 186 i (by omega) (by omega) (by omega) (by omega)) p1) (hPk_fr (fun j _ => hF 201 _ (by omega) (by omega) (by omega) (by omega)) (hF 203 0 (by omega) (by omega) (by omega) (by omega)) p2) (hPk_fr (fun j _ => hF 201 _ (by omega) (by omega) (by omega) (by omega)) (hF 203 1 (by omega) (by omega) (by omega) (by omega)) p3) (hc') (r1) (r2) (r3) (fun k i hk => hF k i (by omega) (by omega) (by omega) (by omega)), hF 184 2 (by omega) (by omega) (by omega) (by omega), hF 0 1 (by omega) (by omega) (by omega) (by omega), hE, hF 130 0 (by omega) (by omega) (by omega) (by omega), hF 157 0 (by omega) (by omega) (by omega) (by omega), hF 203 0 (by omega) (by omega) (by omega) (by omega), hF 203 1 (by omega) (by omega) (by omega) (by omega)⟩
theorem ix_book {r : Nat} {w : cm_W} {a1 : Int32} (hr : r ≤ 4000) (h : jIw r w) : ∃ x w', cm_C 24 4 [.inr (.inr (some 0)), .inl a1] w (some (.inl x), w') ∧ jIw (r + 1) w' ∧ w'.1 184 2 = w.1 184 2 ∧ (((a1.toInt = 0 ∨ a1.toInt = 1) ∧ (w'.1 0 1).toInt = 0) ∨ (¬ (a1.toInt = 0 ∨ a1.toInt = 1) ∧ w'.1 0 1 = w.1 0 1)) ∧ jFl w w' := by
  obtain ⟨hG, p1, p2, p3, p4, p5, p6, p7, T, t1, t2, t3, t4⟩ := id h
  obtain ⟨x, w', hC, hG', hc', hF, hz⟩ := jc_book (w := w) (k := a1) p4 hG
  exact ⟨x, w', cm_C_mono (by decide) hC, jIw_mk h hG' (hPs_fr2 (fun i _ => hF 186 i (by omega) (by omega) (by omega) (by omega)) p1) (hPk_fr (fun j _ => hF 201 _ (by omega) (by omega) (by omega) (by omega)) (hF 203 0 (by omega) (by omega) (by omega) (by omega)) p2) (hPk_fr (fun j _ => hF 201 _ (by omega) (by omega) (by omega) (by omega)) (hF 203 1 (by omega) (by omega) (by omega) (by omega)) p3) (hc') (jR_eq (hF 106 1 (by omega) (by omega) (by omega) (by omega)) (fun i _ => hF _ i (by omega) (by omega) (by omega) (by omega)) (fun i _ => hF _ i (by omega) (by omega) (by omega) (by omega)) p5) (jR_eq (hF 152 1 (by omega) (by omega) (by omega) (by omega)) (fun i _ => hF _ i (by omega) (by omega) (by omega) (by omega)) (fun i _ => hF _ i (by omega) (by omega) (by omega) (by omega)) p6) (jR_eq (hF 179 1 (by omega) (by omega) (by omega) (by omega)) (fun i _ => hF _ i (by omega) (by omega) (by omega) (by omega)) (fun i _ => hF _ i (by omega) (by omega) (by omega) (by omega)) p7) (fun k i hk => hF k i (by omega) (by omega) (by omega) (by omega)), hF 184 2 (by omega) (by omega) (by omega) (by omega), hz, fun k i hq => by unfold jQ1 at hq; exact hF k i (by omega) (by omega) (by omega) (by omega)⟩
theorem ix_table {r : Nat} {w : cm_W} {a1 : Int32} (hr : r ≤ 4000) (h : jIw r w) : ∃ x w', cm_C 24 43 [.inr (.inr (some 0)), .inl a1] w (some (.inl x), w') ∧ jIw (r + 1) w' ∧ w'.1 184 2 = w.1 184 2 ∧ w'.1 0 1 = w.1 0 1 ∧ jFl w w' := by
  obtain ⟨hG, p1, p2, p3, p4, p5, p6, p7, T, t1, t2, t3, t4⟩ := id h
  obtain ⟨x, w', hC, hG', T', u1, u2, u3, u4, hF⟩ := jc_table (w := w) (st := a1) (T0 := T) ⟨t1, by omega⟩ t3 t4 p4.1 hG
  have hfr : ∀ k i, ¬ (121 ≤ k ∧ k ≤ 127) → w'.1 k i = w.1 k i := hF
  exact ⟨x, w', cm_C_mono (by decide) hC, ⟨hG', hPs_fr2 (fun i _ => hfr 186 i (by omega)) p1, hPk_fr (fun j _ => hfr 201 _ (by omega)) (hfr 203 0 (by omega)) p2, hPk_fr (fun j _ => hfr 201 _ (by omega)) (hfr 203 1 (by omega)) p3, jCl_fr (fun k i hs => by unfold jSup at hs; exact hfr k i (by omega)) p4, jR_eq (hfr 106 1 (by omega)) (fun i _ => hfr _ i (by omega)) (fun i _ => hfr _ i (by omega)) p5, jR_eq (hfr 152 1 (by omega)) (fun i _ => hfr _ i (by omega)) (fun i _ => hfr _ i (by omega)) p6, jR_eq (hfr 179 1 (by omega)) (fun i _ => hfr _ i (by omega)) (fun i _ => hfr _ i (by omega)) p7, T', by omega, by omega, u3, u4⟩, hfr 184 2 (by omega), hfr 0 1 (by omega), fun k i hq => by unfold jQ1 at hq; exact hfr k i (by omega)⟩
theorem ix_keeps {r : Nat} {w : cm_W} {a1 : Int32} (hr : r ≤ 4000) (h : jIw r w) : ∃ x w', cm_C 24 24 [.inr (.inr (some 0)), .inl a1] w (some (.inl x), w') ∧ jIw (r + 1) w' ∧ w'.1 184 2 = w.1 184 2 ∧ w'.1 0 1 = w.1 0 1 ∧ jFl w w' := by
  obtain ⟨hG, p1, p2, p3, p4, p5, p6, p7, T, t1, t2, t3, t4⟩ := id h
  obtain ⟨x, w', hC, hG', hF, -⟩ := xs_24_ef2370ea (w := w) (a1 := a1) hG
  exact ⟨x, w', cm_C_mono (by decide) hC, jIw_fr (fun k i hs => by unfold jSpp jSup at hs; exact (hF k i (by omega)).1) hG' h, (hF 184 2 (by omega)).1, (hF 0 1 (by omega)).1, fun k i hq => by unfold jQ1 at hq; exact (hF k i (by omega)).1⟩
theorem ix_said {r : Nat} {w : cm_W} {a1 : Int32} (hr : r ≤ 4000) (h : jIw r w) : ∃ x w', cm_C 24 38 [.inr (.inr (some 0)), .inl a1] w (some (.inl x), w') ∧ jIw (r + 1) w' ∧ w'.1 184 2 = w.1 184 2 ∧ w'.1 0 1 = w.1 0 1 ∧ jFl w w' := by
  obtain ⟨hG, p1, p2, p3, p4, p5, p6, p7, T, t1, t2, t3, t4⟩ := id h
  obtain ⟨r9, w', hC, hG', hF, q, hq, hr9, -, -⟩ := wk_useR (d := 24) hs_said_ok (by decide) (as := [.inr (.inr (some 0)), .inl a1]) (w := w) ⟨rfl, sv_in_top _, trivial⟩ (fun f hf => by cases hf) hG (jR_hs p5)
  have hfr : ∀ k i, ¬ ((k = 106 ∧ i = 6) ∨ k = 110) → w'.1 k i = w.1 k i := fun k i hki => (hF k i (fun ⟨r, z, z1, z2, z3⟩ => by
    simp only [hs_said, tr_s, sm_16_8758fad5, List.cons_append, List.nil_append, List.mem_cons, List.not_mem_nil, or_false] at z
    rcases z with rfl | rfl
    all_goals (simp only at z1 z2 z3; omega))).1
  obtain ⟨x, rfl⟩ : ∃ x, r9 = some (.inl x) := by
    rcases List.mem_cons.mp hq with rfl | hq
    · obtain ⟨x, e, -⟩ := wk_int hr9
      exact ⟨x, e⟩
    · cases hq
  exact ⟨x, w', hC, jIw_fr (fun k i hs => by unfold jSpp jSup at hs; exact hfr k i (by omega)) hG' h, hfr 184 2 (by omega), hfr 0 1 (by omega), fun k i hq => by unfold jQ1 at hq; exact hfr k i (by omega)⟩
theorem im_fault {r : Nat} {w : cm_W} (hr : r ≤ 4000) (h : jIw r w) : ∃ x w', cm_C 24 103 [.inr (.inr (some 184))] w (some (.inl x), w') ∧ jIw (r + 1) w' ∧ w'.1 0 1 = w.1 0 1 ∧ w'.1 184 2 = w.1 184 2 ∧ jFl w w' := by
  obtain ⟨hG, p1, p2, p3, p4, p5, p6, p7, T, t1, t2, t3, t4⟩ := id h
  obtain ⟨x, w', hC, hG', hF, -⟩ := xs_103_35fa1572 (w := w) hG
  exact ⟨x, w', cm_C_mono (by decide) hC, jIw_fr (fun k i hs => by unfold jSpp jSup at hs; exact (hF k i (by omega)).1) hG' h, (hF 0 1 (by omega)).1, (hF 184 2 (by omega)).1, fun k i hq => by unfold jQ1 at hq; exact (hF k i (by omega)).1⟩
theorem im_person {r : Nat} {w : cm_W} {a1 : Int32} {a2 : Int32} (hr : r ≤ 4000) (h : jIw r w) : ∃ x w', cm_C 24 161 [.inr (.inr (some 184)), .inl a1, .inl a2] w (some (.inl x), w') ∧ jIw (r + 1) w' ∧ w'.1 0 1 = w.1 0 1 ∧ w'.1 184 2 = w.1 184 2 ∧ jFl w w' := by
  obtain ⟨hG, p1, p2, p3, p4, p5, p6, p7, T, t1, t2, t3, t4⟩ := id h
  obtain ⟨x, w', hC, hG', hF, -⟩ := xs_161_431feab5 (w := w) (a1 := a1) (a2 := a2) hG
  exact ⟨x, w', cm_C_mono (by decide) hC, jIw_fr (fun k i hs => by unfold jSpp jSup at hs; exact (hF k i (by omega)).1) hG' h, (hF 0 1 (by omega)).1, (hF 184 2 (by omega)).1, fun k i hq => by unfold jQ1 at hq; exact (hF k i (by omega)).1⟩
theorem im_food {r : Nat} {w : cm_W} {a1 : Int32} {a2 : Int32} (hr : r ≤ 4000) (h : jIw r w) : ∃ x w', cm_C 24 106 [.inr (.inr (some 184)), .inl a1, .inl a2] w (some (.inl x), w') ∧ jIw (r + 1) w' ∧ w'.1 0 1 = w.1 0 1 ∧ w'.1 184 2 = w.1 184 2 ∧ jFl w w' := by
  obtain ⟨hG, p1, p2, p3, p4, p5, p6, p7, T, t1, t2, t3, t4⟩ := id h
  obtain ⟨x, w', hC, hG', hF, -⟩ := xs_106_431feab5 (w := w) (a1 := a1) (a2 := a2) hG
  exact ⟨x, w', cm_C_mono (by decide) hC, jIw_fr (fun k i hs => by unfold jSpp jSup at hs; exact (hF k i (by omega)).1) hG' h, (hF 0 1 (by omega)).1, (hF 184 2 (by omega)).1, fun k i hq => by unfold jQ1 at hq; exact (hF k i (by omega)).1⟩
theorem im_meeting {r : Nat} {w : cm_W} {a1 : Int32} {a2 : Int32} (hr : r ≤ 4000) (h : jIw r w) : ∃ x w', cm_C 24 127 [.inr (.inr (some 184)), .inl a1, .inl a2] w (some (.inl x), w') ∧ jIw (r + 1) w' ∧ w'.1 0 1 = w.1 0 1 ∧ w'.1 184 2 = w.1 184 2 ∧ jFl w w' := by
  obtain ⟨hG, p1, p2, p3, p4, p5, p6, p7, T, t1, t2, t3, t4⟩ := id h
  obtain ⟨x, w', hC, hG', hF, -⟩ := xs_127_431feab5 (w := w) (a1 := a1) (a2 := a2) hG
  exact ⟨x, w', cm_C_mono (by decide) hC, jIw_fr (fun k i hs => by unfold jSpp jSup at hs; exact (hF k i (by omega)).1) hG' h, (hF 0 1 (by omega)).1, (hF 184 2 (by omega)).1, fun k i hq => by unfold jQ1 at hq; exact (hF k i (by omega)).1⟩
theorem im_debt {r : Nat} {w : cm_W} {a1 : Int32} {a2 : Int32} (hr : r ≤ 4000) (h : jIw r w) : ∃ x w', cm_C 24 162 [.inr (.inr (some 184)), .inl a1, .inl a2] w (some (.inl x), w') ∧ jIw (r + 1) w' ∧ w'.1 0 1 = w.1 0 1 ∧ w'.1 184 2 = w.1 184 2 ∧ jFl w w' := by
  obtain ⟨hG, p1, p2, p3, p4, p5, p6, p7, T, t1, t2, t3, t4⟩ := id h
  obtain ⟨x, w', hC, hG', hF, -⟩ := xs_162_431feab5 (w := w) (a1 := a1) (a2 := a2) hG
  exact ⟨x, w', cm_C_mono (by decide) hC, jIw_fr (fun k i hs => by unfold jSpp jSup at hs; exact (hF k i (by omega)).1) hG' h, (hF 0 1 (by omega)).1, (hF 184 2 (by omega)).1, fun k i hq => by unfold jQ1 at hq; exact (hF k i (by omega)).1⟩
theorem im_now {r : Nat} {w : cm_W} {a1 : Int32} (hr : r ≤ 4000) (h : jIw r w) : ∃ x w', cm_C 24 130 [.inr (.inr (some 184)), .inl a1] w (some (.inl x), w') ∧ jIw (r + 1) w' ∧ w'.1 0 1 = w.1 0 1 ∧ w'.1 184 2 = w.1 184 2 ∧ jFl w w' := by
  obtain ⟨hG, p1, p2, p3, p4, p5, p6, p7, T, t1, t2, t3, t4⟩ := id h
  obtain ⟨x, w', hC, hG', hF, -⟩ := xs_130_579b40b6 (w := w) (a1 := a1) hG
  exact ⟨x, w', cm_C_mono (by decide) hC, jIw_fr (fun k i hs => by unfold jSpp jSup at hs; exact (hF k i (by omega)).1) hG' h, (hF 0 1 (by omega)).1, (hF 184 2 (by omega)).1, fun k i hq => by unfold jQ1 at hq; exact (hF k i (by omega)).1⟩
theorem im_eat {r : Nat} {w : cm_W} {a1 : Int32} {a2 : Int32} (hr : r ≤ 4000) (h : jIw r w) : ∃ x w', cm_C 24 101 [.inr (.inr (some 184)), .inl a1, .inl a2] w (some (.inl x), w') ∧ jIw (r + 1) w' ∧ w'.1 0 1 = w.1 0 1 ∧ w'.1 184 2 = w.1 184 2 ∧ jFl w w' := by
  obtain ⟨hG, p1, p2, p3, p4, p5, p6, p7, T, t1, t2, t3, t4⟩ := id h
  obtain ⟨x, w', hC, hG', hF, -⟩ := xs_101_29d6cefb (w := w) (a1 := a1) (a2 := a2) hG
  exact ⟨x, w', cm_C_mono (by decide) hC, jIw_fr (fun k i hs => by unfold jSpp jSup at hs; exact (hF k i (by omega)).1) hG' h, (hF 0 1 (by omega)).1, (hF 184 2 (by omega)).1, fun k i hq => by unfold jQ1 at hq; exact (hF k i (by omega)).1⟩
theorem im_ail {r : Nat} {w : cm_W} {a1 : Int32} (hr : r ≤ 4000) (h : jIw r w) : ∃ x w', cm_C 24 90 [.inr (.inr (some 184)), .inl a1] w (some (.inl x), w') ∧ jIw (r + 1) w' ∧ w'.1 0 1 = w.1 0 1 ∧ w'.1 184 2 = w.1 184 2 ∧ jFl w w' := by
  obtain ⟨hG, p1, p2, p3, p4, p5, p6, p7, T, t1, t2, t3, t4⟩ := id h
  obtain ⟨x, w', hC, hG', hF, -⟩ := xs_90_579b40b6 (w := w) (a1 := a1) hG
  exact ⟨x, w', cm_C_mono (by decide) hC, jIw_fr (fun k i hs => by unfold jSpp jSup at hs; exact (hF k i (by omega)).1) hG' h, (hF 0 1 (by omega)).1, (hF 184 2 (by omega)).1, fun k i hq => by unfold jQ1 at hq; exact (hF k i (by omega)).1⟩
theorem im_mend {r : Nat} {w : cm_W} {a1 : Int32} (hr : r ≤ 4000) (h : jIw r w) : ∃ x w', cm_C 24 128 [.inr (.inr (some 184)), .inl a1] w (some (.inl x), w') ∧ jIw (r + 1) w' ∧ w'.1 0 1 = w.1 0 1 ∧ w'.1 184 2 = w.1 184 2 ∧ jFl w w' := by
  obtain ⟨hG, p1, p2, p3, p4, p5, p6, p7, T, t1, t2, t3, t4⟩ := id h
  obtain ⟨x, w', hC, hG', hF, -⟩ := xs_128_579b40b6 (w := w) (a1 := a1) hG
  exact ⟨x, w', cm_C_mono (by decide) hC, jIw_fr (fun k i hs => by unfold jSpp jSup at hs; exact (hF k i (by omega)).1) hG' h, (hF 0 1 (by omega)).1, (hF 184 2 (by omega)).1, fun k i hq => by unfold jQ1 at hq; exact (hF k i (by omega)).1⟩
theorem im_meet {r : Nat} {w : cm_W} {a1 : Int32} (hr : r ≤ 4000) (h : jIw r w) : ∃ x w', cm_C 24 126 [.inr (.inr (some 184)), .inl a1] w (some (.inl x), w') ∧ jIw (r + 1) w' ∧ w'.1 0 1 = w.1 0 1 ∧ w'.1 184 2 = w.1 184 2 ∧ jFl w w' := by
  obtain ⟨hG, p1, p2, p3, p4, p5, p6, p7, T, t1, t2, t3, t4⟩ := id h
  obtain ⟨x, w', hC, hG', hF, -⟩ := xs_126_579b40b6 (w := w) (a1 := a1) hG
  exact ⟨x, w', cm_C_mono (by decide) hC, jIw_fr (fun k i hs => by unfold jSpp jSup at hs; exact (hF k i (by omega)).1) hG' h, (hF 0 1 (by omega)).1, (hF 184 2 (by omega)).1, fun k i hq => by unfold jQ1 at hq; exact (hF k i (by omega)).1⟩
theorem im_hours {r : Nat} {w : cm_W} {a1 : Int32} (hr : r ≤ 4000) (h : jIw r w) : ∃ x w', cm_C 24 111 [.inr (.inr (some 184)), .inl a1] w (some (.inl x), w') ∧ jIw (r + 1) w' ∧ w'.1 0 1 = w.1 0 1 ∧ w'.1 184 2 = w.1 184 2 ∧ jFl w w' := by
  obtain ⟨hG, p1, p2, p3, p4, p5, p6, p7, T, t1, t2, t3, t4⟩ := id h
  obtain ⟨x, w', hC, hG', hF, -⟩ := xs_111_e66e5f6c (w := w) (a1 := a1) hG
  exact ⟨x, w', cm_C_mono (by decide) hC, jIw_fr (fun k i hs => by unfold jSpp jSup at hs; exact (hF k i (by omega)).1) hG' h, (hF 0 1 (by omega)).1, (hF 184 2 (by omega)).1, fun k i hq => by unfold jQ1 at hq; exact (hF k i (by omega)).1⟩
theorem im_undo {r : Nat} {w : cm_W} (hr : r ≤ 4000) (h : jIw r w) : ∃ x w', cm_C 24 149 [.inr (.inr (some 184))] w (some (.inl x), w') ∧ jIw (r + 1) w' ∧ w'.1 0 1 = w.1 0 1 ∧ w'.1 184 2 = w.1 184 2 ∧ jFl w w' := by
  obtain ⟨hG, p1, p2, p3, p4, p5, p6, p7, T, t1, t2, t3, t4⟩ := id h
  obtain ⟨x, w', hC, hG', hF, -⟩ := xs_149_30dd1ae4 (w := w) hG
  exact ⟨x, w', cm_C_mono (by decide) hC, jIw_fr (fun k i hs => by unfold jSpp jSup at hs; exact (hF k i (by omega)).1) hG' h, (hF 0 1 (by omega)).1, (hF 184 2 (by omega)).1, fun k i hq => by unfold jQ1 at hq; exact (hF k i (by omega)).1⟩
theorem im_on {r : Nat} {w : cm_W} {a1 : Int32} (hr : r ≤ 4000) (h : jIw r w) : ∃ x w', cm_C 24 132 [.inr (.inr (some 184)), .inl a1] w (some (.inl x), w') ∧ jIw (r + 1) w' ∧ w'.1 0 1 = w.1 0 1 ∧ w'.1 184 2 = w.1 184 2 ∧ jFl w w' := by
  obtain ⟨hG, p1, p2, p3, p4, p5, p6, p7, T, t1, t2, t3, t4⟩ := id h
  obtain ⟨x, w', hC, hG', hF, -⟩ := xs_132_579b40b6 (w := w) (a1 := a1) hG
  exact ⟨x, w', cm_C_mono (by decide) hC, jIw_fr (fun k i hs => by unfold jSpp jSup at hs; exact (hF k i (by omega)).1) hG' h, (hF 0 1 (by omega)).1, (hF 184 2 (by omega)).1, fun k i hq => by unfold jQ1 at hq; exact (hF k i (by omega)).1⟩
theorem im_common {r : Nat} {w : cm_W} (hr : r ≤ 4000) (h : jIw r w) : ∃ x w', cm_C 24 98 [.inr (.inr (some 184))] w (some (.inl x), w') ∧ jIw (r + 1) w' ∧ w'.1 0 1 = w.1 0 1 ∧ w'.1 184 2 = w.1 184 2 ∧ jFl w w' := by
  obtain ⟨hG, p1, p2, p3, p4, p5, p6, p7, T, t1, t2, t3, t4⟩ := id h
  obtain ⟨x, w', hC, hG', hF, -⟩ := xs_98_35fa1572 (w := w) hG
  exact ⟨x, w', cm_C_mono (by decide) hC, jIw_fr (fun k i hs => by unfold jSpp jSup at hs; exact (hF k i (by omega)).1) hG' h, (hF 0 1 (by omega)).1, (hF 184 2 (by omega)).1, fun k i hq => by unfold jQ1 at hq; exact (hF k i (by omega)).1⟩
theorem im_plate {r : Nat} {w : cm_W} {a1 : Int32} (hr : r ≤ 4000) (h : jIw r w) : ∃ x w', cm_C 24 137 [.inr (.inr (some 184)), .inl a1] w (some (.inl x), w') ∧ jIw (r + 1) w' ∧ w'.1 0 1 = w.1 0 1 ∧ w'.1 184 2 = w.1 184 2 ∧ jFl w w' := by
  obtain ⟨hG, p1, p2, p3, p4, p5, p6, p7, T, t1, t2, t3, t4⟩ := id h
  obtain ⟨x, w', hC, hG', hF, -⟩ := xs_137_579b40b6 (w := w) (a1 := a1) hG
  exact ⟨x, w', cm_C_mono (by decide) hC, jIw_fr (fun k i hs => by unfold jSpp jSup at hs; exact (hF k i (by omega)).1) hG' h, (hF 0 1 (by omega)).1, (hF 184 2 (by omega)).1, fun k i hq => by unfold jQ1 at hq; exact (hF k i (by omega)).1⟩
theorem im_feast {r : Nat} {w : cm_W} (hr : r ≤ 4000) (h : jIw r w) : ∃ x w', cm_C 24 104 [.inr (.inr (some 184))] w (some (.inl x), w') ∧ jIw (r + 1) w' ∧ w'.1 0 1 = w.1 0 1 ∧ w'.1 184 2 = w.1 184 2 ∧ jFl w w' := by
  obtain ⟨hG, p1, p2, p3, p4, p5, p6, p7, T, t1, t2, t3, t4⟩ := id h
  obtain ⟨x, w', hC, hG', hF, -⟩ := xs_104_35fa1572 (w := w) hG
  exact ⟨x, w', cm_C_mono (by decide) hC, jIw_fr (fun k i hs => by unfold jSpp jSup at hs; exact (hF k i (by omega)).1) hG' h, (hF 0 1 (by omega)).1, (hF 184 2 (by omega)).1, fun k i hq => by unfold jQ1 at hq; exact (hF k i (by omega)).1⟩
theorem im_surely {r : Nat} {w : cm_W} (hr : r ≤ 4000) (h : jIw r w) : ∃ x w', cm_C 24 143 [.inr (.inr (some 184))] w (some (.inl x), w') ∧ jIw (r + 1) w' ∧ w'.1 0 1 = w.1 0 1 ∧ w'.1 184 2 = w.1 184 2 ∧ jFl w w' := by
  obtain ⟨hG, p1, p2, p3, p4, p5, p6, p7, T, t1, t2, t3, t4⟩ := id h
  obtain ⟨x, w', hC, hG', hF, -⟩ := xs_143_35fa1572 (w := w) hG
  exact ⟨x, w', cm_C_mono (by decide) hC, jIw_fr (fun k i hs => by unfold jSpp jSup at hs; exact (hF k i (by omega)).1) hG' h, (hF 0 1 (by omega)).1, (hF 184 2 (by omega)).1, fun k i hq => by unfold jQ1 at hq; exact (hF k i (by omega)).1⟩
theorem im_ask {r : Nat} {w : cm_W} (hr : r ≤ 4000) (h : jIw r w) : ∃ x w', cm_C 24 91 [.inr (.inr (some 184))] w (some (.inl x), w') ∧ jIw (r + 1) w' ∧ w'.1 0 1 = w.1 0 1 ∧ w'.1 184 2 = w.1 184 2 ∧ jFl w w' := by
  obtain ⟨hG, p1, p2, p3, p4, p5, p6, p7, T, t1, t2, t3, t4⟩ := id h
  obtain ⟨x, w', hC, hG', hF, -⟩ := xs_91_35fa1572 (w := w) hG
  exact ⟨x, w', cm_C_mono (by decide) hC, jIw_fr (fun k i hs => by unfold jSpp jSup at hs; exact (hF k i (by omega)).1) hG' h, (hF 0 1 (by omega)).1, (hF 184 2 (by omega)).1, fun k i hq => by unfold jQ1 at hq; exact (hF k i (by omega)).1⟩
theorem im_twins {r : Nat} {w : cm_W} {a1 : Int32} {a2 : Int32} (hr : r ≤ 4000) (h : jIw r w) : ∃ x w', cm_C 24 148 [.inr (.inr (some 184)), .inl a1, .inl a2] w (some (.inl x), w') ∧ jIw (r + 1) w' ∧ w'.1 0 1 = w.1 0 1 ∧ w'.1 184 2 = w.1 184 2 ∧ jFl w w' := by
  obtain ⟨hG, p1, p2, p3, p4, p5, p6, p7, T, t1, t2, t3, t4⟩ := id h
  obtain ⟨x, w', hC, hG', hF, -⟩ := xs_148_e1459c79 (w := w) (a1 := a1) (a2 := a2) hG
  exact ⟨x, w', cm_C_mono (by decide) hC, jIw_fr (fun k i hs => by unfold jSpp jSup at hs; exact (hF k i (by omega)).1) hG' h, (hF 0 1 (by omega)).1, (hF 184 2 (by omega)).1, fun k i hq => by unfold jQ1 at hq; exact (hF k i (by omega)).1⟩
theorem im_late {r : Nat} {w : cm_W} {a1 : Int32} (hr : r ≤ 4000) (h : jIw r w) : ∃ x w', cm_C 24 123 [.inr (.inr (some 184)), .inl a1] w (some (.inl x), w') ∧ jIw (r + 1) w' ∧ w'.1 0 1 = w.1 0 1 ∧ w'.1 184 2 = w.1 184 2 ∧ jFl w w' := by
  obtain ⟨hG, p1, p2, p3, p4, p5, p6, p7, T, t1, t2, t3, t4⟩ := id h
  obtain ⟨x, w', hC, hG', hF, -⟩ := xs_123_e66e5f6c (w := w) (a1 := a1) hG
  exact ⟨x, w', cm_C_mono (by decide) hC, jIw_fr (fun k i hs => by unfold jSpp jSup at hs; exact (hF k i (by omega)).1) hG' h, (hF 0 1 (by omega)).1, (hF 184 2 (by omega)).1, fun k i hq => by unfold jQ1 at hq; exact (hF k i (by omega)).1⟩
theorem im_share {r : Nat} {w : cm_W} {a1 : Int32} {a2 : Int32} (hr : r ≤ 4000) (h : jIw r w) : ∃ x w', cm_C 24 141 [.inr (.inr (some 184)), .inl a1, .inl a2] w (some (.inl x), w') ∧ jIw (r + 1) w' ∧ w'.1 0 1 = w.1 0 1 ∧ w'.1 184 2 = w.1 184 2 ∧ jFl w w' := by
  obtain ⟨hG, p1, p2, p3, p4, p5, p6, p7, T, t1, t2, t3, t4⟩ := id h
  obtain ⟨x, w', hC, hG', hF, -⟩ := xs_141_431feab5 (w := w) (a1 := a1) (a2 := a2) hG
  exact ⟨x, w', cm_C_mono (by decide) hC, jIw_fr (fun k i hs => by unfold jSpp jSup at hs; exact (hF k i (by omega)).1) hG' h, (hF 0 1 (by omega)).1, (hF 184 2 (by omega)).1, fun k i hq => by unfold jQ1 at hq; exact (hF k i (by omega)).1⟩
theorem im_clash {r : Nat} {w : cm_W} {a1 : Int32} (hr : r ≤ 4000) (h : jIw r w) : ∃ x w', cm_C 24 97 [.inr (.inr (some 184)), .inl a1] w (some (.inl x), w') ∧ jIw (r + 1) w' ∧ w'.1 0 1 = w.1 0 1 ∧ w'.1 184 2 = w.1 184 2 ∧ jFl w w' := by
  obtain ⟨hG, p1, p2, p3, p4, p5, p6, p7, T, t1, t2, t3, t4⟩ := id h
  obtain ⟨x, w', hC, hG', hF, -⟩ := xs_97_579b40b6 (w := w) (a1 := a1) hG
  exact ⟨x, w', cm_C_mono (by decide) hC, jIw_fr (fun k i hs => by unfold jSpp jSup at hs; exact (hF k i (by omega)).1) hG' h, (hF 0 1 (by omega)).1, (hF 184 2 (by omega)).1, fun k i hq => by unfold jQ1 at hq; exact (hF k i (by omega)).1⟩
theorem im_later {r : Nat} {w : cm_W} {a1 : Int32} {a2 : Int32} (hr : r ≤ 4000) (h : jIw r w) : ∃ x w', cm_C 24 124 [.inr (.inr (some 184)), .inl a1, .inl a2] w (some (.inl x), w') ∧ jIw (r + 1) w' ∧ w'.1 0 1 = w.1 0 1 ∧ w'.1 184 2 = w.1 184 2 ∧ jFl w w' := by
  obtain ⟨hG, p1, p2, p3, p4, p5, p6, p7, T, t1, t2, t3, t4⟩ := id h
  obtain ⟨x, w', hC, hG', hF, -⟩ := xs_124_e1459c79 (w := w) (a1 := a1) (a2 := a2) hG
  exact ⟨x, w', cm_C_mono (by decide) hC, jIw_fr (fun k i hs => by unfold jSpp jSup at hs; exact (hF k i (by omega)).1) hG' h, (hF 0 1 (by omega)).1, (hF 184 2 (by omega)).1, fun k i hq => by unfold jQ1 at hq; exact (hF k i (by omega)).1⟩
theorem im_paid {r : Nat} {w : cm_W} {a1 : Int32} (hr : r ≤ 4000) (h : jIw r w) : ∃ x w', cm_C 24 135 [.inr (.inr (some 184)), .inl a1] w (some (.inl x), w') ∧ jIw (r + 1) w' ∧ w'.1 0 1 = w.1 0 1 ∧ w'.1 184 2 = w.1 184 2 ∧ jFl w w' := by
  obtain ⟨hG, p1, p2, p3, p4, p5, p6, p7, T, t1, t2, t3, t4⟩ := id h
  obtain ⟨x, w', hC, hG', hF, -⟩ := xs_135_e66e5f6c (w := w) (a1 := a1) hG
  exact ⟨x, w', cm_C_mono (by decide) hC, jIw_fr (fun k i hs => by unfold jSpp jSup at hs; exact (hF k i (by omega)).1) hG' h, (hF 0 1 (by omega)).1, (hF 184 2 (by omega)).1, fun k i hq => by unfold jQ1 at hq; exact (hF k i (by omega)).1⟩
theorem im_drawn {r : Nat} {w : cm_W} {a1 : Int32} {a2 : Int32} (hr : r ≤ 4000) (h : jIw r w) : ∃ x w', cm_C 24 100 [.inr (.inr (some 184)), .inl a1, .inl a2] w (some (.inl x), w') ∧ jIw (r + 1) w' ∧ w'.1 0 1 = w.1 0 1 ∧ w'.1 184 2 = w.1 184 2 ∧ jFl w w' := by
  obtain ⟨hG, p1, p2, p3, p4, p5, p6, p7, T, t1, t2, t3, t4⟩ := id h
  obtain ⟨x, w', hC, hG', hF, -⟩ := xs_100_e9b7db92 (w := w) (a1 := a1) (a2 := a2) hG
  exact ⟨x, w', cm_C_mono (by decide) hC, jIw_fr (fun k i hs => by unfold jSpp jSup at hs; exact (hF k i (by omega)).1) hG' h, (hF 0 1 (by omega)).1, (hF 184 2 (by omega)).1, fun k i hq => by unfold jQ1 at hq; exact (hF k i (by omega)).1⟩
theorem im_odds {r : Nat} {w : cm_W} {a1 : Int32} {a2 : Int32} {a3 : Int32} (hr : r ≤ 4000) (h : jIw r w) : ∃ x w', cm_C 24 131 [.inr (.inr (some 184)), .inl a1, .inl a2, .inl a3] w (some (.inl x), w') ∧ jIw (r + 1) w' ∧ w'.1 0 1 = w.1 0 1 ∧ w'.1 184 2 = w.1 184 2 ∧ jFl w w' := by
  obtain ⟨hG, p1, p2, p3, p4, p5, p6, p7, T, t1, t2, t3, t4⟩ := id h
  obtain ⟨x, w', hC, hG', hF, -⟩ := xs_131_778db6a3 (w := w) (a1 := a1) (a2 := a2) (a3 := a3) hG
  exact ⟨x, w', cm_C_mono (by decide) hC, jIw_fr (fun k i hs => by unfold jSpp jSup at hs; exact (hF k i (by omega)).1) hG' h, (hF 0 1 (by omega)).1, (hF 184 2 (by omega)).1, fun k i hq => by unfold jQ1 at hq; exact (hF k i (by omega)).1⟩
theorem im_told {r : Nat} {w : cm_W} {a1 : Int32} (hr : r ≤ 4000) (h : jIw r w) : ∃ x w', cm_C 24 146 [.inr (.inr (some 184)), .inl a1] w (some (.inl x), w') ∧ jIw (r + 1) w' ∧ w'.1 0 1 = w.1 0 1 ∧ w'.1 184 2 = w.1 184 2 ∧ jFl w w' := by
  obtain ⟨hG, p1, p2, p3, p4, p5, p6, p7, T, t1, t2, t3, t4⟩ := id h
  obtain ⟨x, w', hC, hG', hF, -⟩ := xs_146_579b40b6 (w := w) (a1 := a1) hG
  exact ⟨x, w', cm_C_mono (by decide) hC, jIw_fr (fun k i hs => by unfold jSpp jSup at hs; exact (hF k i (by omega)).1) hG' h, (hF 0 1 (by omega)).1, (hF 184 2 (by omega)).1, fun k i hq => by unfold jQ1 at hq; exact (hF k i (by omega)).1⟩
theorem im_count {r : Nat} {w : cm_W} {a1 : Int32} (hr : r ≤ 4000) (h : jIw r w) : ∃ x w', cm_C 24 99 [.inr (.inr (some 184)), .inl a1] w (some (.inl x), w') ∧ jIw (r + 1) w' ∧ w'.1 0 1 = w.1 0 1 ∧ w'.1 184 2 = w.1 184 2 ∧ jFl w w' := by
  obtain ⟨hG, p1, p2, p3, p4, p5, p6, p7, T, t1, t2, t3, t4⟩ := id h
  obtain ⟨x, w', hC, hG', hF, -⟩ := xs_99_579b40b6 (w := w) (a1 := a1) hG
  exact ⟨x, w', cm_C_mono (by decide) hC, jIw_fr (fun k i hs => by unfold jSpp jSup at hs; exact (hF k i (by omega)).1) hG' h, (hF 0 1 (by omega)).1, (hF 184 2 (by omega)).1, fun k i hq => by unfold jQ1 at hq; exact (hF k i (by omega)).1⟩
theorem im_ate {r : Nat} {w : cm_W} (hr : r ≤ 4000) (h : jIw r w) : ∃ x w', cm_C 24 92 [.inr (.inr (some 184))] w (some (.inl x), w') ∧ jIw (r + 1) w' ∧ w'.1 0 1 = w.1 0 1 ∧ (w'.1 184 2).toInt = 0 ∧ jFl w w' := by
  obtain ⟨hG, p1, p2, p3, p4, p5, p6, p7, T, t1, t2, t3, t4⟩ := id h
  obtain ⟨x, w', hC, hG', hF, hx⟩ := xs_92_d1d51e99_2678 (w := w) hG
  exact ⟨x, w', cm_C_mono (by decide) hC, jIw_fr (fun k i hs => by unfold jSpp jSup at hs; exact (hF k i (by omega)).1) hG' h, (hF 0 1 (by omega)).1, by omega, fun k i hq => by unfold jQ1 at hq; exact (hF k i (by omega)).1⟩
theorem im_valley {r : Nat} {w : cm_W} (hr : r ≤ 4000) (h : jIw r w) : ∃ x w', cm_C 24 150 [.inr (.inr (some 184))] w (some (.inl x), w') ∧ jIw (r + 1) w' ∧ w'.1 0 1 = w.1 0 1 ∧ (w'.1 184 2).toInt = 0 ∧ jFs w w' := by
  obtain ⟨hG, p1, p2, p3, p4, p5, p6, p7, T, t1, t2, t3, t4⟩ := id h
  obtain ⟨x, w', hC, hG', hP', hF, hz⟩ := jva_ok (w := w) p1 hG
  exact ⟨x, w', cm_C_mono (by decide) hC, jIw_mk h hG' (hP') (hPk_fr (fun j _ => hF 201 _ (by omega) (by omega) (by omega) (by omega)) (hF 203 0 (by omega) (by omega) (by omega) (by omega)) p2) (hPk_fr (fun j _ => hF 201 _ (by omega) (by omega) (by omega) (by omega)) (hF 203 1 (by omega) (by omega) (by omega) (by omega)) p3) (jCl_fr (fun k i hs => by unfold jSup at hs; exact hF k i (by omega) (by omega) (by omega) (by omega)) p4) (jR_eq (hF 106 1 (by omega) (by omega) (by omega) (by omega)) (fun i _ => hF _ i (by omega) (by omega) (by omega) (by omega)) (fun i _ => hF _ i (by omega) (by omega) (by omega) (by omega)) p5) (jR_eq (hF 152 1 (by omega) (by omega) (by omega) (by omega)) (fun i _ => hF _ i (by omega) (by omega) (by omega) (by omega)) (fun i _ => hF _ i (by omega) (by omega) (by omega) (by omega)) p6) (jR_eq (hF 179 1 (by omega) (by omega) (by omega) (by omega)) (fun i _ => hF _ i (by omega) (by omega) (by omega) (by omega)) (fun i _ => hF _ i (by omega) (by omega) (by omega) (by omega)) p7) (fun k i hk => hF k i (by omega) (by omega) (by omega) (by omega)), hF 0 1 (by omega) (by omega) (by omega) (by omega), hz, hF 130 0 (by omega) (by omega) (by omega) (by omega), hF 157 0 (by omega) (by omega) (by omega) (by omega), hF 203 0 (by omega) (by omega) (by omega) (by omega), hF 203 1 (by omega) (by omega) (by omega) (by omega)⟩
theorem im_sentence {r : Nat} {w : cm_W} (hr : r ≤ 4000) (h : jIw r w) : ∃ x w', cm_C 24 140 [.inr (.inr (some 184))] w (some (.inl x), w') ∧ jIw (r + 1) w' ∧ w'.1 0 1 = w.1 0 1 ∧ (w'.1 184 2).toInt = 0 ∧ jFl w w' := by
  obtain ⟨hG, p1, p2, p3, p4, p5, p6, p7, T, t1, t2, t3, t4⟩ := id h
  obtain ⟨x, w', hC, hG', hP', hF, hz⟩ := hse_ok (w := w) p1 hG
  exact ⟨x, w', cm_C_mono (by decide) hC, jIw_mk h hG' (hP') (hPk_fr (fun j _ => hF 201 _ (by omega) (by omega) (by omega) (by omega)) (hF 203 0 (by omega) (by omega) (by omega) (by omega)) p2) (hPk_fr (fun j _ => hF 201 _ (by omega) (by omega) (by omega) (by omega)) (hF 203 1 (by omega) (by omega) (by omega) (by omega)) p3) (jCl_fr (fun k i hs => by unfold jSup at hs; exact hF k i (by omega) (by omega) (by omega) (by omega)) p4) (jR_eq (hF 106 1 (by omega) (by omega) (by omega) (by omega)) (fun i _ => hF _ i (by omega) (by omega) (by omega) (by omega)) (fun i _ => hF _ i (by omega) (by omega) (by omega) (by omega)) p5) (jR_eq (hF 152 1 (by omega) (by omega) (by omega) (by omega)) (fun i _ => hF _ i (by omega) (by omega) (by omega) (by omega)) (fun i _ => hF _ i (by omega) (by omega) (by omega) (by omega)) p6) (jR_eq (hF 179 1 (by omega) (by omega) (by omega) (by omega)) (fun i _ => hF _ i (by omega) (by omega) (by omega) (by omega)) (fun i _ => hF _ i (by omega) (by omega) (by omega) (by omega)) p7) (fun k i hk => hF k i (by omega) (by omega) (by omega) (by omega)), hF 0 1 (by omega) (by omega) (by omega) (by omega), hz, fun k i hq => by unfold jQ1 at hq; exact hF k i (by omega) (by omega) (by omega) (by omega)⟩
theorem im_image {r : Nat} {w : cm_W} {a1 : Int32} (hr : r ≤ 4000) (h : jIw r w) : ∃ x w', cm_C 24 112 [.inr (.inr (some 184)), .inl a1] w (some (.inl x), w') ∧ jIw (r + 1) w' ∧ w'.1 0 1 = w.1 0 1 ∧ w'.1 184 2 = w.1 184 2 ∧ ((a1.toInt = 0 ∧ x = Int32.ofInt 1 ∧ (w'.1 203 0).toInt = 1 ∧ w'.1 203 1 = w.1 203 1) ∨ (a1.toInt = 1 ∧ x = Int32.ofInt 1 ∧ (w'.1 203 1).toInt = 1 ∧ w'.1 203 0 = w.1 203 0) ∨ (¬ (0 ≤ a1.toInt ∧ a1.toInt ≤ 1) ∧ x = Int32.ofInt 0 ∧ w'.1 203 0 = w.1 203 0 ∧ w'.1 203 1 = w.1 203 1)) ∧ w'.1 130 0 = w.1 130 0 ∧ w'.1 157 0 = w.1 157 0 := by
  obtain ⟨hG, p1, p2, p3, p4, p5, p6, p7, T, t1, t2, t3, t4⟩ := id h
  obtain ⟨x, w', hC, hG', hP', hk0, hk1, hF, hE⟩ := him_ok (w := w) (k := a1) p1 p2 p3 hG
  exact ⟨x, w', cm_C_mono (by decide) hC, jIw_mk h hG' (hP') (hk0) (hk1) (jCl_fr (fun k i hs => by unfold jSup at hs; exact hF k i (by omega) (by omega) (by omega)) p4) (jR_eq (hF 106 1 (by omega) (by omega) (by omega)) (fun i _ => hF _ i (by omega) (by omega) (by omega)) (fun i _ => hF _ i (by omega) (by omega) (by omega)) p5) (jR_eq (hF 152 1 (by omega) (by omega) (by omega)) (fun i _ => hF _ i (by omega) (by omega) (by omega)) (fun i _ => hF _ i (by omega) (by omega) (by omega)) p6) (jR_eq (hF 179 1 (by omega) (by omega) (by omega)) (fun i _ => hF _ i (by omega) (by omega) (by omega)) (fun i _ => hF _ i (by omega) (by omega) (by omega)) p7) (fun k i hk => hF k i (by omega) (by omega) (by omega)), hF 0 1 (by omega) (by omega) (by omega), hF 184 2 (by omega) (by omega) (by omega), hE, hF 130 0 (by omega) (by omega) (by omega), hF 157 0 (by omega) (by omega) (by omega)⟩
theorem im_restore {r : Nat} {w : cm_W} {a1 : Int32} (hr : r ≤ 4000) (h : jIw r w) : ∃ x w', cm_C 24 138 [.inr (.inr (some 184)), .inl a1] w (some (.inl x), w') ∧ jIw (r + 1) w' ∧ w'.1 0 1 = w.1 0 1 ∧ w'.1 184 2 = w.1 184 2 ∧ ((a1.toInt = 0 ∧ (w.1 203 0).toInt ≠ 0 ∧ x = Int32.ofInt 1) ∨ (a1.toInt = 1 ∧ (w.1 203 1).toInt ≠ 0 ∧ x = Int32.ofInt 1) ∨ (¬ (a1.toInt = 0 ∧ (w.1 203 0).toInt ≠ 0) ∧ ¬ (a1.toInt = 1 ∧ (w.1 203 1).toInt ≠ 0) ∧ x = Int32.ofInt 0)) ∧ jFs w w' := by
  obtain ⟨hG, p1, p2, p3, p4, p5, p6, p7, T, t1, t2, t3, t4⟩ := id h
  obtain ⟨x, w', hC, hG', hP', hk0, hk1, hF, hE⟩ := hre_ok (w := w) (k := a1) p1 p2 p3 hG
  exact ⟨x, w', cm_C_mono (by decide) hC, jIw_mk h hG' (hP') (hk0) (hk1) (jCl_fr (fun k i hs => by unfold jSup at hs; exact hF k i (by omega) (by omega) (by omega)) p4) (jR_eq (hF 106 1 (by omega) (by omega) (by omega)) (fun i _ => hF _ i (by omega) (by omega) (by omega)) (fun i _ => hF _ i (by omega) (by omega) (by omega)) p5) (jR_eq (hF 152 1 (by omega) (by omega) (by omega)) (fun i _ => hF _ i (by omega) (by omega) (by omega)) (fun i _ => hF _ i (by omega) (by omega) (by omega)) p6) (jR_eq (hF 179 1 (by omega) (by omega) (by omega)) (fun i _ => hF _ i (by omega) (by omega) (by omega)) (fun i _ => hF _ i (by omega) (by omega) (by omega)) p7) (fun k i hk => hF k i (by omega) (by omega) (by omega)), hF 0 1 (by omega) (by omega) (by omega), hF 184 2 (by omega) (by omega) (by omega), hE, hF 130 0 (by omega) (by omega) (by omega), hF 157 0 (by omega) (by omega) (by omega), hF 203 0 (by omega) (by omega) (by omega), hF 203 1 (by omega) (by omega) (by omega)⟩
theorem im_book {r : Nat} {w : cm_W} {a1 : Int32} (hr : r ≤ 4000) (h : jIw r w) : ∃ x w', cm_C 24 96 [.inr (.inr (some 184)), .inl a1] w (some (.inl x), w') ∧ jIw (r + 1) w' ∧ w'.1 0 1 = w.1 0 1 ∧ (((a1.toInt = 0 ∨ a1.toInt = 1) ∧ (w'.1 184 2).toInt = 0) ∨ (¬ (a1.toInt = 0 ∨ a1.toInt = 1) ∧ w'.1 184 2 = w.1 184 2)) ∧ jFl w w' := by
  obtain ⟨hG, p1, p2, p3, p4, p5, p6, p7, T, t1, t2, t3, t4⟩ := id h
  obtain ⟨x, w', hC, hG', hP', hF, hz⟩ := jbo_ok (w := w) (k := a1) p1 hG
  exact ⟨x, w', cm_C_mono (by decide) hC, jIw_mk h hG' (hP') (hPk_fr (fun j _ => hF 201 _ (by omega) (by omega) (by omega) (by omega) (by omega) (by omega)) (hF 203 0 (by omega) (by omega) (by omega) (by omega) (by omega) (by omega)) p2) (hPk_fr (fun j _ => hF 201 _ (by omega) (by omega) (by omega) (by omega) (by omega) (by omega)) (hF 203 1 (by omega) (by omega) (by omega) (by omega) (by omega) (by omega)) p3) (jCl_fr (fun k i hs => by unfold jSup at hs; exact hF k i (by omega) (by omega) (by omega) (by omega) (by omega) (by omega)) p4) (jR_eq (hF 106 1 (by omega) (by omega) (by omega) (by omega) (by omega) (by omega)) (fun i _ => hF _ i (by omega) (by omega) (by omega) (by omega) (by omega) (by omega)) (fun i _ => hF _ i (by omega) (by omega) (by omega) (by omega) (by omega) (by omega)) p5) (jR_eq (hF 152 1 (by omega) (by omega) (by omega) (by omega) (by omega) (by omega)) (fun i _ => hF _ i (by omega) (by omega) (by omega) (by omega) (by omega) (by omega)) (fun i _ => hF _ i (by omega) (by omega) (by omega) (by omega) (by omega) (by omega)) p6) (jR_eq (hF 179 1 (by omega) (by omega) (by omega) (by omega) (by omega) (by omega)) (fun i _ => hF _ i (by omega) (by omega) (by omega) (by omega) (by omega) (by omega)) (fun i _ => hF _ i (by omega) (by omega) (by omega) (by omega) (by omega) (by omega)) p7) (fun k i hk => hF k i (by omega) (by omega) (by omega) (by omega) (by omega) (by omega)), hF 0 1 (by omega) (by omega) (by omega) (by omega) (by omega) (by omega), hz, fun k i hq => by unfold jQ1 at hq; exact hF k i (by omega) (by omega) (by omega) (by omega) (by omega) (by omega)⟩
theorem im_table {r : Nat} {w : cm_W} {a1 : Int32} (hr : r ≤ 4000) (h : jIw r w) : ∃ x w', cm_C 24 144 [.inr (.inr (some 184)), .inl a1] w (some (.inl x), w') ∧ jIw (r + 1) w' ∧ w'.1 0 1 = w.1 0 1 ∧ w'.1 184 2 = w.1 184 2 ∧ jFl w w' := by
  obtain ⟨hG, p1, p2, p3, p4, p5, p6, p7, T, t1, t2, t3, t4⟩ := id h
  obtain ⟨x, w', hC, hG', hF, -⟩ := hb_ok w a1 hG
  exact ⟨x, w', cm_C_mono (by decide) hC, jIw_mk h hG' (hPs_fr2 (fun i _ => hF 186 i (by omega) (by omega) (by omega)) p1) (hPk_fr (fun j _ => hF 201 _ (by omega) (by omega) (by omega)) (hF 203 0 (by omega) (by omega) (by omega)) p2) (hPk_fr (fun j _ => hF 201 _ (by omega) (by omega) (by omega)) (hF 203 1 (by omega) (by omega) (by omega)) p3) (jCl_fr (fun k i hs => by unfold jSup at hs; exact hF k i (by omega) (by omega) (by omega)) p4) (jR_eq (hF 106 1 (by omega) (by omega) (by omega)) (fun i _ => hF _ i (by omega) (by omega) (by omega)) (fun i _ => hF _ i (by omega) (by omega) (by omega)) p5) (jR_eq (hF 152 1 (by omega) (by omega) (by omega)) (fun i _ => hF _ i (by omega) (by omega) (by omega)) (fun i _ => hF _ i (by omega) (by omega) (by omega)) p6) (jR_eq (hF 179 1 (by omega) (by omega) (by omega)) (fun i _ => hF _ i (by omega) (by omega) (by omega)) (fun i _ => hF _ i (by omega) (by omega) (by omega)) p7) (fun k i hk => hF k i (by omega) (by omega) (by omega)), hF 0 1 (by omega) (by omega) (by omega), hF 184 2 (by omega) (by omega) (by omega), fun k i hq => by unfold jQ1 at hq; exact hF k i (by omega) (by omega) (by omega)⟩
theorem im_keeps {r : Nat} {w : cm_W} {a1 : Int32} (hr : r ≤ 4000) (h : jIw r w) : ∃ x w', cm_C 24 122 [.inr (.inr (some 184)), .inl a1] w (some (.inl x), w') ∧ jIw (r + 1) w' ∧ w'.1 0 1 = w.1 0 1 ∧ w'.1 184 2 = w.1 184 2 ∧ jFl w w' := by
  obtain ⟨hG, p1, p2, p3, p4, p5, p6, p7, T, t1, t2, t3, t4⟩ := id h
  obtain ⟨x, w', hC, hG', hF⟩ := jkp_ok w a1 hG
  exact ⟨x, w', cm_C_mono (by decide) hC, jIw_mk h hG' (hPs_fr2 (fun i _ => hF 186 i (by omega) (by omega)) p1) (hPk_fr (fun j _ => hF 201 _ (by omega) (by omega)) (hF 203 0 (by omega) (by omega)) p2) (hPk_fr (fun j _ => hF 201 _ (by omega) (by omega)) (hF 203 1 (by omega) (by omega)) p3) (jCl_fr (fun k i hs => by unfold jSup at hs; exact hF k i (by omega) (by omega)) p4) (jR_eq (hF 106 1 (by omega) (by omega)) (fun i _ => hF _ i (by omega) (by omega)) (fun i _ => hF _ i (by omega) (by omega)) p5) (jR_eq (hF 152 1 (by omega) (by omega)) (fun i _ => hF _ i (by omega) (by omega)) (fun i _ => hF _ i (by omega) (by omega)) p6) (jR_eq (hF 179 1 (by omega) (by omega)) (fun i _ => hF _ i (by omega) (by omega)) (fun i _ => hF _ i (by omega) (by omega)) p7) (fun k i hk => hF k i (by omega) (by omega)), hF 0 1 (by omega) (by omega), hF 184 2 (by omega) (by omega), fun k i hq => by unfold jQ1 at hq; exact hF k i (by omega) (by omega)⟩
theorem im_said {r : Nat} {w : cm_W} {a1 : Int32} (hr : r ≤ 4000) (h : jIw r w) : ∃ x w', cm_C 24 139 [.inr (.inr (some 184)), .inl a1] w (some (.inl x), w') ∧ jIw (r + 1) w' ∧ w'.1 0 1 = w.1 0 1 ∧ w'.1 184 2 = w.1 184 2 ∧ jFl w w' := by
  obtain ⟨hG, p1, p2, p3, p4, p5, p6, p7, T, t1, t2, t3, t4⟩ := id h
  obtain ⟨x, w', hC, hG', hF⟩ := hsd_ok (w := w) (k := a1) p1 hG
  exact ⟨x, w', cm_C_mono (by decide) hC, jIw_mk h hG' (hPs_fr2 (fun i _ => hF 186 i (by omega) (by omega)) p1) (hPk_fr (fun j _ => hF 201 _ (by omega) (by omega)) (hF 203 0 (by omega) (by omega)) p2) (hPk_fr (fun j _ => hF 201 _ (by omega) (by omega)) (hF 203 1 (by omega) (by omega)) p3) (jCl_fr (fun k i hs => by unfold jSup at hs; exact hF k i (by omega) (by omega)) p4) (jR_eq (hF 106 1 (by omega) (by omega)) (fun i _ => hF _ i (by omega) (by omega)) (fun i _ => hF _ i (by omega) (by omega)) p5) (jR_eq (hF 152 1 (by omega) (by omega)) (fun i _ => hF _ i (by omega) (by omega)) (fun i _ => hF _ i (by omega) (by omega)) p6) (jR_eq (hF 179 1 (by omega) (by omega)) (fun i _ => hF _ i (by omega) (by omega)) (fun i _ => hF _ i (by omega) (by omega)) p7) (fun k i hk => hF k i (by omega) (by omega)), hF 0 1 (by omega) (by omega), hF 184 2 (by omega) (by omega), fun k i hq => by unfold jQ1 at hq; exact hF k i (by omega) (by omega)⟩
theorem jex_ok {w : cm_W} {a1 : Int32} (hG : sv_w sg w) : ∃ x w', cm_C 1 10 [.inr (.inr (some 0)), .inl a1] w (some (.inl x), w') ∧ sv_w sg w' ∧ (∀ k i, ¬ (k = 0 ∧ (i = 1 ∨ i = 0)) → w'.1 k i = w.1 k i) ∧ ((0 ≤ a1.toInt ∧ a1.toInt ≤ (w.1 0 1).toInt ∧ w'.1 0 1 = a1 ∧ x = Int32.ofInt 1) ∨ (¬ (0 ≤ a1.toInt ∧ a1.toInt ≤ (w.1 0 1).toInt) ∧ w'.1 0 1 = w.1 0 1 ∧ x = Int32.ofInt 0)) := by
  have h : ∃ o, cm_C (0 + 1) 10 [.inr (.inr (some 0)), .inl a1] w o ∧ (fun o : cm_O => ∃ x w', o = (some (.inl x), w') ∧ sv_w sg w' ∧ (∀ k i, ¬ (k = 0 ∧ (i = 1 ∨ i = 0)) → w'.1 k i = w.1 k i) ∧ ((0 ≤ a1.toInt ∧ a1.toInt ≤ (w.1 0 1).toInt ∧ w'.1 0 1 = a1 ∧ x = Int32.ofInt 1) ∨ (¬ (0 ≤ a1.toInt ∧ a1.toInt ≤ (w.1 0 1).toInt) ∧ w'.1 0 1 = w.1 0 1 ∧ x = Int32.ofInt 0))) o := by
    refine wk_entry (by rw [xm_8efe34db]; exact Nat.le_of_ble_eq_true rfl) ?_
    rw [show cm_ent 10 [.inr (.inr (some 0)), .inl a1] = [some (.inr (.inr (some 0))), some (.inl a1)] from by unfold cm_ent; rw [xm_8efe34db]; rfl]
    have g := hG 0 1
    rw [xg_1bc18e31] at g
    have g := hb_in g
    refine wk_iload_n xd_3c770871 rfl ?_
    refine wk_if xd_db7c7621 (t := 12) rfl (fun h1_0 => ?_) (fun h1_0 => ?_)
    · have h1_0 := aw_lt_t (a := ((a1).toInt : Int)) (b := (0 : Int)) rfl hb_z h1_0
      refine wk_iconst xd_edf2a8dd ?_
      exact wk_ireturn xd_6b88d9b0 xr_0b299d6c wk_z0 ⟨_, _, rfl, hG, fun k i hki => rfl, .inr ⟨by omega, rfl, rfl⟩⟩
    · have h1_0 := aw_lt_f (a := ((a1).toInt : Int)) (b := (0 : Int)) rfl hb_z h1_0
      refine wk_iload_n xd_3c2ba9e2 rfl ?_
      refine wk_aload_n xd_c03bb9eb rfl ?_
      refine wk_getI xf_34ec780b xd_bbf83b5c ?_
      refine wk_icmp xd_285a46f1 (t := 14) rfl (fun h9_1 => ?_) (fun h9_1 => ?_)
      · have h9_1 := aw_le_t (a := ((a1).toInt : Int)) (b := ((w.1 0 1).toInt : Int)) rfl rfl h9_1
        refine wk_aload_n xd_570f87e9 rfl ?_
        refine wk_iload_n xd_ab1f97e0 rfl ?_
        refine wk_putI xf_f8c20c0a (fun ci => wk_fitI ci) xd_60acff5e ?_
        have hG3_ : sv_w sg (cm_u1 w 0 1 a1) := sv_w_u1 hG (by rw [xg_1bc18e31]; exact hb_mk (by rw [show (a1).toInt = (a1).toInt from rfl]; omega) (by rw [show (a1).toInt = (a1).toInt from rfl]; omega))
        refine wk_iconst xd_50a90a2d ?_
        exact wk_ireturn xd_29eef613 xr_0b299d6c wk_z1 ⟨_, _, rfl, hG3_, fun k i hki => by rw [hs_u1_ne (by omega)], .inl ⟨by omega, by omega, hs_u1_self, rfl⟩⟩
      · have h9_1 := aw_le_f (a := ((a1).toInt : Int)) (b := ((w.1 0 1).toInt : Int)) rfl rfl h9_1
        refine wk_iconst xd_edf2a8dd ?_
        exact wk_ireturn xd_6b88d9b0 xr_0b299d6c wk_z0 ⟨_, _, rfl, hG, fun k i hki => rfl, .inr ⟨by omega, rfl, rfl⟩⟩
  obtain ⟨o, hC, x, w', rfl, a⟩ := h
  exact ⟨x, w', hC, a⟩
theorem ix_end {r : Nat} {w : cm_W} {a1 : Int32} (hr : r ≤ 4000) (h : jIw r w) : ∃ x w', cm_C 24 10 [.inr (.inr (some 0)), .inl a1] w (some (.inl x), w') ∧ jIw (r + 1) w' ∧ w'.1 184 2 = w.1 184 2 ∧ ((0 ≤ a1.toInt ∧ a1.toInt ≤ (w.1 0 1).toInt ∧ w'.1 0 1 = a1 ∧ x = Int32.ofInt 1) ∨ (¬ (0 ≤ a1.toInt ∧ a1.toInt ≤ (w.1 0 1).toInt) ∧ w'.1 0 1 = w.1 0 1 ∧ x = Int32.ofInt 0)) ∧ jFl w w' := by
  obtain ⟨hG, p1, p2, p3, p4, p5, p6, p7, T, t1, t2, t3, t4⟩ := id h
  obtain ⟨x, w', hC, hG', hF, hz⟩ := jex_ok (w := w) (a1 := a1) hG
  exact ⟨x, w', cm_C_mono (by decide) hC, jIw_mk h hG' (hPs_fr2 (fun i _ => hF 186 i (by omega)) p1) (hPk_fr (fun j _ => hF 201 _ (by omega)) (hF 203 0 (by omega)) p2) (hPk_fr (fun j _ => hF 201 _ (by omega)) (hF 203 1 (by omega)) p3) (jCl_fr (fun k i hs => by unfold jSup at hs; exact hF k i (by omega)) p4) (jR_eq (hF 106 1 (by omega)) (fun i _ => hF _ i (by omega)) (fun i _ => hF _ i (by omega)) p5) (jR_eq (hF 152 1 (by omega)) (fun i _ => hF _ i (by omega)) (fun i _ => hF _ i (by omega)) p6) (jR_eq (hF 179 1 (by omega)) (fun i _ => hF _ i (by omega)) (fun i _ => hF _ i (by omega)) p7) (fun k i hk => hF k i (by omega)), hF 184 2 (by omega), hz, fun k i hq => by unfold jQ1 at hq; exact hF k i (by omega)⟩
theorem jem_ok {w : cm_W} {a1 : Int32} (hG : sv_w sg w) : ∃ x w', cm_C 1 102 [.inr (.inr (some 184)), .inl a1] w (some (.inl x), w') ∧ sv_w sg w' ∧ (∀ k i, ¬ (k = 184 ∧ (i = 2 ∨ i = 0)) → w'.1 k i = w.1 k i) ∧ ((0 ≤ a1.toInt ∧ a1.toInt ≤ (w.1 184 2).toInt ∧ w'.1 184 2 = a1 ∧ x = Int32.ofInt 1) ∨ (¬ (0 ≤ a1.toInt ∧ a1.toInt ≤ (w.1 184 2).toInt) ∧ w'.1 184 2 = w.1 184 2 ∧ x = Int32.ofInt 0)) := by
  have h : ∃ o, cm_C (0 + 1) 102 [.inr (.inr (some 184)), .inl a1] w o ∧ (fun o : cm_O => ∃ x w', o = (some (.inl x), w') ∧ sv_w sg w' ∧ (∀ k i, ¬ (k = 184 ∧ (i = 2 ∨ i = 0)) → w'.1 k i = w.1 k i) ∧ ((0 ≤ a1.toInt ∧ a1.toInt ≤ (w.1 184 2).toInt ∧ w'.1 184 2 = a1 ∧ x = Int32.ofInt 1) ∨ (¬ (0 ≤ a1.toInt ∧ a1.toInt ≤ (w.1 184 2).toInt) ∧ w'.1 184 2 = w.1 184 2 ∧ x = Int32.ofInt 0))) o := by
    refine wk_entry (by rw [xm_df034035]; exact Nat.le_of_ble_eq_true rfl) ?_
    rw [show cm_ent 102 [.inr (.inr (some 184)), .inl a1] = [some (.inr (.inr (some 184))), some (.inl a1)] from by unfold cm_ent; rw [xm_df034035]; rfl]
    have g := hG 184 2
    rw [xg_ea0e0444] at g
    have g := hb_in g
    refine wk_aload_n xd_2db1a4e5 rfl ?_
    refine wk_iconst xd_5c523216 ?_
    refine wk_putI xf_45c36bbd (fun ci => wk_fitI ci) xd_c5617b83 ?_
    have hG1_ : sv_w sg (cm_u1 w 184 0 (Int32.ofInt 0)) := sv_w_u1 hG (by rw [xg_59f145a5]; exact hb_mk (by rw [(show ((Int32.ofInt 0)).toInt = 0 from by decide)]; omega) (by rw [(show ((Int32.ofInt 0)).toInt = 0 from by decide)]; omega))
    refine wk_iload_n xd_d1fd157f rfl ?_
    refine wk_if xd_ed92e9b7 (t := 17) rfl (fun h6_1 => ?_) (fun h6_1 => ?_)
    · have h6_1 := aw_lt_t (a := ((a1).toInt : Int)) (b := (0 : Int)) rfl hb_z h6_1
      refine wk_iconst xd_d0de0954 ?_
      exact wk_ireturn xd_4c738b65 xr_9ec991e2 wk_z0 ⟨_, _, rfl, hG1_, fun k i hki => by rw [hs_u1_ne (by omega)], .inr ⟨by omega, hs_u1_ne (by omega), rfl⟩⟩
    · have h6_1 := aw_lt_f (a := ((a1).toInt : Int)) (b := (0 : Int)) rfl hb_z h6_1
      refine wk_iload_n xd_d118f7ca rfl ?_
      refine wk_aload_n xd_58257a18 rfl ?_
      refine wk_getI xf_656ccc86 xd_663e0d02 ?_
      refine wk_icmp xd_c7772582 (t := 19) rfl (fun h14_2 => ?_) (fun h14_2 => ?_)
      · have h14_2 := aw_le_t (a := ((a1).toInt : Int)) (b := ((w.1 184 2).toInt : Int)) rfl rfl h14_2
        refine wk_aload_n xd_c3efd3ea rfl ?_
        refine wk_iload_n xd_675829ed rfl ?_
        refine wk_putI xf_12a7d264 (fun ci => wk_fitI ci) xd_e4ab8b27 ?_
        have hG4_ : sv_w sg (cm_u1 (cm_u1 w 184 0 (Int32.ofInt 0)) 184 2 a1) := sv_w_u1 hG1_ (by rw [xg_ea0e0444]; exact hb_mk (by rw [show (a1).toInt = (a1).toInt from rfl]; omega) (by rw [show (a1).toInt = (a1).toInt from rfl]; omega))
        refine wk_iconst xd_a223b499 ?_
        exact wk_ireturn xd_dddaa876 xr_9ec991e2 wk_z1 ⟨_, _, rfl, hG4_, fun k i hki => by rw [hs_u1_ne (by omega), hs_u1_ne (by omega)], .inl ⟨by omega, by omega, hs_u1_self, rfl⟩⟩
      · have h14_2 := aw_le_f (a := ((a1).toInt : Int)) (b := ((w.1 184 2).toInt : Int)) rfl rfl h14_2
        refine wk_iconst xd_d0de0954 ?_
        exact wk_ireturn xd_4c738b65 xr_9ec991e2 wk_z0 ⟨_, _, rfl, hG1_, fun k i hki => by rw [hs_u1_ne (by omega)], .inr ⟨by omega, hs_u1_ne (by omega), rfl⟩⟩
  obtain ⟨o, hC, x, w', rfl, a⟩ := h
  exact ⟨x, w', hC, a⟩
theorem im_end {r : Nat} {w : cm_W} {a1 : Int32} (hr : r ≤ 4000) (h : jIw r w) : ∃ x w', cm_C 24 102 [.inr (.inr (some 184)), .inl a1] w (some (.inl x), w') ∧ jIw (r + 1) w' ∧ w'.1 0 1 = w.1 0 1 ∧ ((0 ≤ a1.toInt ∧ a1.toInt ≤ (w.1 184 2).toInt ∧ w'.1 184 2 = a1 ∧ x = Int32.ofInt 1) ∨ (¬ (0 ≤ a1.toInt ∧ a1.toInt ≤ (w.1 184 2).toInt) ∧ w'.1 184 2 = w.1 184 2 ∧ x = Int32.ofInt 0)) ∧ jFl w w' := by
  obtain ⟨hG, p1, p2, p3, p4, p5, p6, p7, T, t1, t2, t3, t4⟩ := id h
  obtain ⟨x, w', hC, hG', hF, hz⟩ := jem_ok (w := w) (a1 := a1) hG
  exact ⟨x, w', cm_C_mono (by decide) hC, jIw_mk h hG' (hPs_fr2 (fun i _ => hF 186 i (by omega)) p1) (hPk_fr (fun j _ => hF 201 _ (by omega)) (hF 203 0 (by omega)) p2) (hPk_fr (fun j _ => hF 201 _ (by omega)) (hF 203 1 (by omega)) p3) (jCl_fr (fun k i hs => by unfold jSup at hs; exact hF k i (by omega)) p4) (jR_eq (hF 106 1 (by omega)) (fun i _ => hF _ i (by omega)) (fun i _ => hF _ i (by omega)) p5) (jR_eq (hF 152 1 (by omega)) (fun i _ => hF _ i (by omega)) (fun i _ => hF _ i (by omega)) p6) (jR_eq (hF 179 1 (by omega)) (fun i _ => hF _ i (by omega)) (fun i _ => hF _ i (by omega)) p7) (fun k i hk => hF k i (by omega)), hF 0 1 (by omega), hz, fun k i hq => by unfold jQ1 at hq; exact hF k i (by omega)⟩
theorem jax_ok {w : cm_W} (hG : sv_w sg w) : ∃ x w', cm_C 5 3 [.inr (.inr (some 0))] w (some (.inl x), w') ∧ sv_w sg w' ∧ (∀ k i, ¬ (k = 0 ∧ i = 1) → ¬ (128 ≤ k ∧ k ≤ 129) → w'.1 k i = w.1 k i) ∧ (w'.1 0 1).toInt = 0 := by
  have h : ∃ o, cm_C (4 + 1) 3 [.inr (.inr (some 0))] w o ∧ (fun o : cm_O => ∃ x w', o = (some (.inl x), w') ∧ sv_w sg w' ∧ (∀ k i, ¬ (k = 0 ∧ i = 1) → ¬ (128 ≤ k ∧ k ≤ 129) → w'.1 k i = w.1 k i) ∧ (w'.1 0 1).toInt = 0) o := by
    refine wk_entry (by rw [xm_7d437b01]; exact Nat.le_of_ble_eq_true rfl) ?_
    rw [show cm_ent 3 [.inr (.inr (some 0))] = [some (.inr (.inr (some 0))), none] from by unfold cm_ent; rw [xm_7d437b01]; rfl]
    have g0 := hG 1 0
    rw [xg_33057bff] at g0
    have g0 := hb_in g0
    have g1 := hG 1 1
    rw [xg_32b086e2] at g1
    have g1 := hb_in g1
    refine wk_aload_n xd_a72f46de rfl ?_
    refine wk_getI xf_bc016233 xd_05ec7e20 ?_
    refine wk_istore_n xd_95db6f2c (by rw [xm_7d437b01]; rfl) rfl ?_
    refine wk_aload_n xd_3c000d99 rfl ?_
    refine wk_iconst xd_c2a0db4d ?_
    refine wk_putI xf_9e02f687 (fun ci => wk_fitI ci) xd_658efa35 ?_
    have hG1_ : sv_w sg (cm_u1 w 0 1 (Int32.ofInt 0)) := sv_w_u1 hG (by rw [xg_1bc18e31]; exact hb_mk (by rw [(show ((Int32.ofInt 0)).toInt = 0 from by decide)]; omega) (by rw [(show ((Int32.ofInt 0)).toInt = 0 from by decide)]; omega))
    refine wk_iload_n xd_8ec7f703 rfl ?_
    refine wk_iconst xd_5271e28f ?_
    refine wk_icmp xd_27e540bf (t := 27) rfl (fun h12_1 => ?_) (fun h12_1 => ?_)
    · have h12_1 := aw_ne_t (a := ((w.1 0 1).toInt : Int)) (b := (2 : Int)) rfl (show ((Int32.ofInt 2)).toInt = 2 from by decide) h12_1
      refine wk_iconst xd_9f84d641 ?_
      exact wk_ireturn xd_8e20f13e xr_a2268891 rfl ⟨_, _, rfl, hG1_, fun k i h1 h2 => hs_u1_ne (by omega), by rw [hs_u1_self]; decide⟩
    · have h12_1 := aw_ne_f (a := ((w.1 0 1).toInt : Int)) (b := (2 : Int)) rfl (show ((Int32.ofInt 2)).toInt = 2 from by decide) h12_1
      refine wk_aload_n xd_728b4699 rfl ?_
      refine wk_getR xf_25bea5a3 xd_9aa062e6 ?_
      refine wk_iconst xd_91f297ef ?_
      refine aw_iaload (i := 0) xf_97ae57c2 (show ((Int32.ofInt 0)).toInt = 0 from by decide) (by omega) (by omega) xd_ec213cb0 ?_
      refine wk_sipush xd_a526c46c ?_
      refine wk_icmp xd_59cfc7ba (t := 29) rfl (fun h24_2 => ?_) (fun h24_2 => ?_)
      · have h24_2 := aw_le_t (a := ((w.1 1 0).toInt : Int)) (b := (199 : Int)) rfl (show (((Int16.ofInt 199).toInt32)).toInt = 199 from by decide) h24_2
        refine wk_aload_n xd_2a700d04 rfl ?_
        refine wk_getR xf_8b16a91d xd_9eeead6d ?_
        refine wk_aload_n xd_467af8ec rfl ?_
        refine wk_getR xf_f84a9dbe xd_bfc3a086 ?_
        refine wk_aload_n xd_4626597f rfl ?_
        refine wk_getR xf_25bea5a3 xd_68f62a55 ?_
        refine wk_iconst xd_b39efaa8 ?_
        refine aw_iaload (i := 0) xf_97ae57c2 (show ((Int32.ofInt 0)).toInt = 0 from by decide) (by omega) (by omega) xd_d0d24ffa ?_
        refine wk_aload_n xd_7762cf9b rfl ?_
        refine wk_getR xf_25bea5a3 xd_1dad741c ?_
        refine wk_iconst xd_fc0f8998 ?_
        refine aw_iaload (i := 1) xf_97ae57c2 (show ((Int32.ofInt 1)).toInt = 1 from by decide) (by omega) (by omega) xd_87c7efc4 ?_
        obtain ⟨xG, wG, hCG, hGG, hFG, hxG⟩ := xs_178_4db13928 (w := (cm_u1 w 0 1 (Int32.ofInt 0))) (a2 := ((cm_u1 w 0 1 (Int32.ofInt 0)).1 1 0)) (a3 := ((cm_u1 w 0 1 (Int32.ofInt 0)).1 1 1)) (by have e9 : (((cm_u1 w 0 1 (Int32.ofInt 0)).1 1 0)).toInt = ((w.1 1 0).toInt : Int) := rfl; exact ⟨by omega, by omega⟩) (by have e9 : (((cm_u1 w 0 1 (Int32.ofInt 0)).1 1 1)).toInt = ((w.1 1 1).toInt : Int) := rfl; exact ⟨by omega, by omega⟩) hG1_
        refine wk_call (kd := 0) (i := 323) xd_bd7e6ae8 rfl (wk_cal (as := [.inr (.inr (some 128)), .inr (.inr (some 4)), .inl ((cm_u1 w 0 1 (Int32.ofInt 0)).1 1 0), .inl ((cm_u1 w 0 1 (Int32.ofInt 0)).1 1 1)]) (t := []) xl_679debe9 rfl xn_1d683f9d xc_ac32f21e rfl rfl xv_87fe7086 rfl) (cm_C_mono (by omega) hCG) ?_
        exact wk_ireturn xd_2acfc775 xr_a2268891 rfl ⟨_, _, rfl, hGG, fun k i h1 h2 => (hFG k i (by omega)).1.trans (hs_u1_ne (by omega)), by rw [(hFG 0 1 (by omega)).1, hs_u1_self]; decide⟩
      · have h24_2 := aw_le_f (a := ((w.1 1 0).toInt : Int)) (b := (199 : Int)) rfl (show (((Int16.ofInt 199).toInt32)).toInt = 199 from by decide) h24_2
        refine wk_iconst xd_9f84d641 ?_
        exact wk_ireturn xd_8e20f13e xr_a2268891 rfl ⟨_, _, rfl, hG1_, fun k i h1 h2 => hs_u1_ne (by omega), by rw [hs_u1_self]; decide⟩
  obtain ⟨o, hC, x, w', rfl, a⟩ := h
  exact ⟨x, w', hC, a⟩
theorem ix_ate {r : Nat} {w : cm_W} (hr : r ≤ 4000) (h : jIw r w) : ∃ x w', cm_C 24 3 [.inr (.inr (some 0))] w (some (.inl x), w') ∧ jIw (r + 1) w' ∧ w'.1 184 2 = w.1 184 2 ∧ (w'.1 0 1).toInt = 0 ∧ jFl w w' := by
  obtain ⟨hG, p1, p2, p3, p4, p5, p6, p7, T, t1, t2, t3, t4⟩ := id h
  obtain ⟨x, w', hC, hG', hF, hz⟩ := jax_ok (w := w) hG
  exact ⟨x, w', cm_C_mono (by decide) hC, jIw_mk h hG' (hPs_fr2 (fun i _ => hF 186 i (by omega) (by omega)) p1) (hPk_fr (fun j _ => hF 201 _ (by omega) (by omega)) (hF 203 0 (by omega) (by omega)) p2) (hPk_fr (fun j _ => hF 201 _ (by omega) (by omega)) (hF 203 1 (by omega) (by omega)) p3) (jCl_fr (fun k i hs => by unfold jSup at hs; exact hF k i (by omega) (by omega)) p4) (jR_eq (hF 106 1 (by omega) (by omega)) (fun i _ => hF _ i (by omega) (by omega)) (fun i _ => hF _ i (by omega) (by omega)) p5) (jR_eq (hF 152 1 (by omega) (by omega)) (fun i _ => hF _ i (by omega) (by omega)) (fun i _ => hF _ i (by omega) (by omega)) p6) (jR_eq (hF 179 1 (by omega) (by omega)) (fun i _ => hF _ i (by omega) (by omega)) (fun i _ => hF _ i (by omega) (by omega)) p7) (fun k i hk => hF k i (by omega) (by omega)), hF 184 2 (by omega) (by omega), hz, fun k i hq => by unfold jQ1 at hq; exact hF k i (by omega) (by omega)⟩

/-! ## by hand: sentence of the class (wip/p2/gen9l.py) -/
set_option maxRecDepth 100000 in
theorem xd_6e4b2d6b : decode (ia_code 191) 0 = .ok (.iload_n 3, 1) := fdd_d (by decide +kernel)
set_option maxRecDepth 100000 in
theorem xd_5ab57cdf : decode (ia_code 191) 1 = .ok (.iconst (-1), 1) := fdd_d (by decide +kernel)
set_option maxRecDepth 100000 in
theorem xd_bd6e99e7 : decode (ia_code 191) 2 = .ok (.if_icmp .eq 12, 3) := fdd_d (by decide +kernel)
set_option maxRecDepth 100000 in
theorem xd_b7ff8427 : decode (ia_code 191) 14 = .ok (.iconst 0, 1) := fdd_d (by decide +kernel)
set_option maxRecDepth 100000 in
theorem xd_637b384e : decode (ia_code 191) 15 = .ok (.ireturn, 1) := fdd_d (by decide +kernel)
set_option maxRecDepth 100000 in
theorem xr_3550d28b : ia_ret 191 = some .boolean := by decide +kernel
set_option maxRecDepth 100000 in
theorem xd_e8c7cf91 : decode (ia_code 191) 5 = .ok (.aload_n 0, 1) := fdd_d (by decide +kernel)
set_option maxRecDepth 100000 in
theorem xd_9ec222c5 : decode (ia_code 191) 6 = .ok (.getfield 28, 3) := fdd_d (by decide +kernel)
set_option maxRecDepth 100000 in
theorem xf_f8f0852a : wk_gf 191 28 111 1 0 = true := by decide +kernel
set_option maxRecDepth 100000 in
theorem xd_3ef74fd3 : decode (ia_code 191) 9 = .ok (.bipush 40, 2) := fdd_d (by decide +kernel)
set_option maxRecDepth 100000 in
theorem xd_08f5ca71 : decode (ia_code 191) 11 = .ok (.if_icmp .lt 5, 3) := fdd_d (by decide +kernel)
set_option maxRecDepth 100000 in
theorem xd_0a613054 : decode (ia_code 191) 16 = .ok (.aload_n 0, 1) := fdd_d (by decide +kernel)
set_option maxRecDepth 100000 in
theorem xd_1eaf3a67 : decode (ia_code 191) 17 = .ok (.getfield 11, 3) := fdd_d (by decide +kernel)
set_option maxRecDepth 100000 in
theorem xf_4ece2c60 : wk_gf 191 11 111 2 (112 + 3) = true := by decide +kernel
set_option maxRecDepth 100000 in
theorem xd_bfb5eb06 : decode (ia_code 191) 20 = .ok (.aload_n 0, 1) := fdd_d (by decide +kernel)
set_option maxRecDepth 100000 in
theorem xd_0ca7abe6 : decode (ia_code 191) 21 = .ok (.getfield 28, 3) := fdd_d (by decide +kernel)
set_option maxRecDepth 100000 in
theorem xd_d88ab048 : decode (ia_code 191) 24 = .ok (.iload_n 1, 1) := fdd_d (by decide +kernel)
set_option maxRecDepth 100000 in
theorem xd_fd3e668f : decode (ia_code 191) 25 = .ok (.iastore, 1) := fdd_d (by decide +kernel)
set_option maxRecDepth 100000 in
theorem xf_48a404b8 : wk_ar 112 50 40 = true := by decide +kernel
set_option maxRecDepth 100000 in
theorem xf_ec3dbc73 : sv_gr sg 112 = [] := by decide +kernel
set_option maxRecDepth 100000 in
theorem xd_527f997c : decode (ia_code 191) 26 = .ok (.aload_n 0, 1) := fdd_d (by decide +kernel)
set_option maxRecDepth 100000 in
theorem xd_1978715f : decode (ia_code 191) 27 = .ok (.getfield 15, 3) := fdd_d (by decide +kernel)
set_option maxRecDepth 100000 in
theorem xf_150cdd5b : wk_gf 191 15 111 3 (113 + 3) = true := by decide +kernel
set_option maxRecDepth 100000 in
theorem xd_3e908e21 : decode (ia_code 191) 30 = .ok (.aload_n 0, 1) := fdd_d (by decide +kernel)
set_option maxRecDepth 100000 in
theorem xd_ebba0d71 : decode (ia_code 191) 31 = .ok (.getfield 28, 3) := fdd_d (by decide +kernel)
set_option maxRecDepth 100000 in
theorem xd_1e0fafbf : decode (ia_code 191) 34 = .ok (.iload_n 2, 1) := fdd_d (by decide +kernel)
set_option maxRecDepth 100000 in
theorem xd_ea16024f : decode (ia_code 191) 35 = .ok (.iastore, 1) := fdd_d (by decide +kernel)
set_option maxRecDepth 100000 in
theorem xf_d5abe5ce : wk_ar 113 50 40 = true := by decide +kernel
set_option maxRecDepth 100000 in
theorem xf_27616fd6 : sv_gr sg 113 = [] := by decide +kernel
set_option maxRecDepth 100000 in
theorem xd_d35afc5b : decode (ia_code 191) 36 = .ok (.aload_n 0, 1) := fdd_d (by decide +kernel)
set_option maxRecDepth 100000 in
theorem xd_06f51379 : decode (ia_code 191) 37 = .ok (.getfield 18, 3) := fdd_d (by decide +kernel)
set_option maxRecDepth 100000 in
theorem xf_b37f16a1 : wk_gf 191 18 111 4 (114 + 3) = true := by decide +kernel
set_option maxRecDepth 100000 in
theorem xd_0f88b956 : decode (ia_code 191) 40 = .ok (.aload_n 0, 1) := fdd_d (by decide +kernel)
set_option maxRecDepth 100000 in
theorem xd_33797657 : decode (ia_code 191) 41 = .ok (.getfield 28, 3) := fdd_d (by decide +kernel)
set_option maxRecDepth 100000 in
theorem xd_1277b178 : decode (ia_code 191) 44 = .ok (.iload_n 3, 1) := fdd_d (by decide +kernel)
set_option maxRecDepth 100000 in
theorem xd_8fcf3c0f : decode (ia_code 191) 45 = .ok (.iastore, 1) := fdd_d (by decide +kernel)
set_option maxRecDepth 100000 in
theorem xf_b0664f0e : wk_ar 114 50 40 = true := by decide +kernel
set_option maxRecDepth 100000 in
theorem xf_3a645f6e : sv_gr sg 114 = [] := by decide +kernel
set_option maxRecDepth 100000 in
theorem xd_e242cb2c : decode (ia_code 191) 46 = .ok (.aload_n 0, 1) := fdd_d (by decide +kernel)
set_option maxRecDepth 100000 in
theorem xd_1857660c : decode (ia_code 191) 47 = .ok (.dup, 1) := fdd_d (by decide +kernel)
set_option maxRecDepth 100000 in
theorem xd_baf975ee : decode (ia_code 191) 48 = .ok (.getfield 28, 3) := fdd_d (by decide +kernel)
set_option maxRecDepth 100000 in
theorem xd_c14afbc4 : decode (ia_code 191) 51 = .ok (.iconst 1, 1) := fdd_d (by decide +kernel)
set_option maxRecDepth 100000 in
theorem xd_877f9dbc : decode (ia_code 191) 52 = .ok (.iadd, 1) := fdd_d (by decide +kernel)
set_option maxRecDepth 100000 in
theorem xd_fdd35aa4 : decode (ia_code 191) 53 = .ok (.putfield 28, 3) := fdd_d (by decide +kernel)
set_option maxRecDepth 100000 in
theorem xf_b683cd60 : wk_pf 191 28 111 1 0 = true := by decide +kernel
set_option maxRecDepth 100000 in
theorem xd_a493c584 : decode (ia_code 191) 56 = .ok (.iconst 1, 1) := fdd_d (by decide +kernel)
set_option maxRecDepth 100000 in
theorem xd_db1eaa33 : decode (ia_code 191) 57 = .ok (.ireturn, 1) := fdd_d (by decide +kernel)
set_option maxRecDepth 100000 in
theorem xm_56cfce18 : ia_maxL 191 = 4 := by decide +kernel
set_option maxRecDepth 100000 in
theorem xd_9ea23492 : decode (ia_code 194) 0 = .ok (.iload_n 2, 1) := fdd_d (by decide +kernel)
set_option maxRecDepth 100000 in
theorem xd_7fcc7aed : decode (ia_code 194) 1 = .ok (.ifCond .le 11, 3) := fdd_d (by decide +kernel)
set_option maxRecDepth 100000 in
theorem xd_0887eeee : decode (ia_code 194) 12 = .ok (.iconst 0, 1) := fdd_d (by decide +kernel)
set_option maxRecDepth 100000 in
theorem xd_cb70e77d : decode (ia_code 194) 13 = .ok (.ireturn, 1) := fdd_d (by decide +kernel)
set_option maxRecDepth 100000 in
theorem xr_0506dc16 : ia_ret 194 = some .int := by decide +kernel
set_option maxRecDepth 100000 in
theorem xd_be3d150c : decode (ia_code 194) 4 = .ok (.aload_n 0, 1) := fdd_d (by decide +kernel)
set_option maxRecDepth 100000 in
theorem xd_422d0505 : decode (ia_code 194) 5 = .ok (.iload_n 1, 1) := fdd_d (by decide +kernel)
set_option maxRecDepth 100000 in
theorem xd_e064ebdb : decode (ia_code 194) 6 = .ok (.iconst 0, 1) := fdd_d (by decide +kernel)
set_option maxRecDepth 100000 in
theorem xd_f74c8f1b : decode (ia_code 194) 7 = .ok (.iconst 0, 1) := fdd_d (by decide +kernel)
set_option maxRecDepth 100000 in
theorem xl_8f84ec50 : ia_pl (ia_cls 194) 67 = some (1, 191, 0, 0, 1299) := by decide +kernel
set_option maxRecDepth 100000 in
theorem xn_2a723c9c : ia_na 191 = 4 := by decide +kernel
set_option maxRecDepth 100000 in
theorem xc_62d23603 : ia_mc 191 = 0 ∧ ia_ms 191 = 0 := ⟨by decide +kernel, by decide +kernel⟩
set_option maxRecDepth 100000 in
theorem xv_f554e49c : cm_rcv 191 [.inr (.inr (some 111))] = true := by decide +kernel
set_option maxRecDepth 100000 in
theorem xd_68bc5824 : decode (ia_code 194) 8 = .ok (.invokevirtual 67, 3) := fdd_d (by decide +kernel)
set_option maxRecDepth 100000 in
theorem xd_e766aee6 : decode (ia_code 194) 11 = .ok (.pop, 1) := fdd_d (by decide +kernel)
set_option maxRecDepth 100000 in
theorem xm_004bd4cb : ia_maxL 194 = 3 := by decide +kernel
set_option maxRecDepth 100000 in
theorem xd_d91b5367 : decode (ia_code 198) 33 = .ok (.aload_n 1, 1) := fdd_d (by decide +kernel)
set_option maxRecDepth 100000 in
theorem xd_215c2cd5 : decode (ia_code 198) 34 = .ok (.getfield 85, 3) := fdd_d (by decide +kernel)
set_option maxRecDepth 100000 in
theorem xf_f5d474a3 : wk_gf 198 85 2 10 0 = true := by decide +kernel
set_option maxRecDepth 100000 in
theorem xd_9684d0d4 : decode (ia_code 198) 37 = .ok (.istore_n 3, 1) := fdd_d (by decide +kernel)
set_option maxRecDepth 100000 in
theorem xm_5bdfac69 : ia_maxL 198 = 4 := by decide +kernel
set_option maxRecDepth 100000 in
theorem xd_af47297c : decode (ia_code 198) 38 = .ok (.aload_n 1, 1) := fdd_d (by decide +kernel)
set_option maxRecDepth 100000 in
theorem xl_38f50a73 : ia_pl (ia_cls 198) 60 = some (1, 61, 0, 0, 1297) := by decide +kernel
set_option maxRecDepth 100000 in
theorem xd_70bb661b : decode (ia_code 198) 39 = .ok (.invokevirtual 60, 3) := fdd_d (by decide +kernel)
set_option maxRecDepth 100000 in
theorem xd_4e10a774 : decode (ia_code 198) 42 = .ok (.aload_n 0, 1) := fdd_d (by decide +kernel)
set_option maxRecDepth 100000 in
theorem xd_f5a0cdad : decode (ia_code 198) 43 = .ok (.iload_n 2, 1) := fdd_d (by decide +kernel)
set_option maxRecDepth 100000 in
theorem xd_be797cb3 : decode (ia_code 198) 44 = .ok (.iload_n 3, 1) := fdd_d (by decide +kernel)
set_option maxRecDepth 100000 in
theorem xd_05c9166a : decode (ia_code 198) 45 = .ok (.aload_n 1, 1) := fdd_d (by decide +kernel)
set_option maxRecDepth 100000 in
theorem xd_b0b48dcb : decode (ia_code 198) 46 = .ok (.iconst 0, 1) := fdd_d (by decide +kernel)
set_option maxRecDepth 100000 in
theorem xd_fc865c5b : decode (ia_code 198) 47 = .ok (.sipush 999, 3) := fdd_d (by decide +kernel)
set_option maxRecDepth 100000 in
theorem xs_189_4d2f1930 {a1 : Int32} {a2 : Int32} {w : cm_W} (h1 : 0 ≤ a1.toInt ∧ a1.toInt ≤ 0) (h2 : 999 ≤ a2.toInt ∧ a2.toInt ≤ 999) (hG : sv_w sg w) : ∃ x : Int32, ∃ w' : cm_W, cm_C 3 189 [.inr (.inr (some 2)), .inl a1, .inl a2] w (some (.inl x), w') ∧ sv_w sg w' ∧ (∀ k i, ¬ ((k = 2 ∧ 4 ≤ i ∧ i ≤ 12)) → w'.1 k i = w.1 k i ∧ w'.2 k i = w.2 k i) ∧ ((x.toInt = (-1)) ∨ ((-2147483648) ≤ x.toInt ∧ x.toInt ≤ 2147483647)) := by
  obtain ⟨r, w', hC, hG', hF, q, hq, hr, hp, hs⟩ := wk_use (d := 3) sm_189_4d2f1930_ok (by decide) (as := [.inr (.inr (some 2)), .inl a1, .inl a2]) (w := w) ⟨rfl, hb_mk (lo := 2147483648) (hi := 2147483648) (by have := h1.1; omega) (by have := h1.2; omega), hb_mk (lo := 2147484647) (hi := 2147484647) (by have := h2.1; omega) (by have := h2.2; omega), trivial⟩ (fun f hf => by
    cases hf) hG
  have hfr : ∀ k i, ¬ ((k = 2 ∧ 4 ≤ i ∧ i ≤ 12)) → w'.1 k i = w.1 k i ∧ w'.2 k i = w.2 k i := fun k i hki => hF k i (fun ⟨r, z, z1, z2, z3⟩ => by
    simp only [sm_189_4d2f1930, List.mem_cons, List.not_mem_nil, or_false] at z
    rcases z with rfl
    all_goals (simp only at z1 z2 z3; omega))
  simp only [sm_189_4d2f1930, List.mem_cons, List.not_mem_nil, or_false] at hq
  rcases hq with rfl | rfl
  · obtain ⟨x, rfl, hx⟩ := wk_int hr
    have hx := hb_in hx
    exact ⟨x, w', hC, hG', hfr, Or.inl (by omega)⟩
  · obtain ⟨x, rfl, hx⟩ := wk_int hr
    have hx := hb_in hx
    exact ⟨x, w', hC, hG', hfr, Or.inr (⟨by omega, by omega⟩)⟩
set_option maxRecDepth 100000 in
theorem xl_ad4bd201 : ia_pl (ia_cls 198) 87 = some (1, 189, 0, 0, 1308) := by decide +kernel
set_option maxRecDepth 100000 in
theorem xd_dad75494 : decode (ia_code 198) 50 = .ok (.invokevirtual 87, 3) := fdd_d (by decide +kernel)
set_option maxRecDepth 100000 in
theorem xl_38ab2e45 : ia_pl (ia_cls 198) 67 = some (1, 191, 0, 0, 1299) := by decide +kernel
set_option maxRecDepth 100000 in
theorem xd_a47c10fc : decode (ia_code 198) 53 = .ok (.invokevirtual 67, 3) := fdd_d (by decide +kernel)
set_option maxRecDepth 100000 in
theorem xd_cd442a14 : decode (ia_code 198) 56 = .ok (.ireturn, 1) := fdd_d (by decide +kernel)
set_option maxRecDepth 100000 in
theorem xr_54e65656 : ia_ret 198 = some .boolean := by decide +kernel
set_option maxRecDepth 100000 in
theorem xd_fcbc264d : decode (ia_code 198) 0 = .ok (.aload_n 1, 1) := fdd_d (by decide +kernel)
set_option maxRecDepth 100000 in
theorem xd_c1b226d5 : decode (ia_code 198) 1 = .ok (.bipush 60, 2) := fdd_d (by decide +kernel)
set_option maxRecDepth 100000 in
theorem xs_60_6bf3596d {a1 : Int32} {w : cm_W} (h1 : 60 ≤ a1.toInt ∧ a1.toInt ≤ 60) (hG : sv_w sg w) : ∃ x : Int32, cm_C 1 60 [.inr (.inr (some 2)), .inl a1] w (some (.inl x), w) ∧ ((x.toInt = 1) ∨ (x.toInt = 0)) := by
  obtain ⟨r, w', hC, hG', hF, q, hq, hr, hp, hs⟩ := wk_use (d := 1) sm_60_6bf3596d_ok (by decide) (as := [.inr (.inr (some 2)), .inl a1]) (w := w) ⟨rfl, hb_mk (lo := 2147483708) (hi := 2147483708) (by have := h1.1; omega) (by have := h1.2; omega), trivial⟩ (fun f hf => by
    cases hf) hG
  have ew : w' = w := Prod.ext (funext fun k => funext fun i => (hF k i (fun ⟨r, z, _⟩ => by cases z)).1) (funext fun k => funext fun i => (hF k i (fun ⟨r, z, _⟩ => by cases z)).2)
  subst ew
  simp only [sm_60_6bf3596d, List.mem_cons, List.not_mem_nil, or_false] at hq
  rcases hq with rfl | rfl
  · obtain ⟨x, rfl, hx⟩ := wk_int hr
    have hx := hb_in hx
    exact ⟨x, hC, Or.inl (by omega)⟩
  · obtain ⟨x, rfl, hx⟩ := wk_int hr
    have hx := hb_in hx
    exact ⟨x, hC, Or.inr ((by omega))⟩
set_option maxRecDepth 100000 in
theorem xl_f57eadbe : ia_pl (ia_cls 198) 71 = some (1, 60, 0, 0, 1295) := by decide +kernel
set_option maxRecDepth 100000 in
theorem xn_f2e637ad : ia_na 60 = 2 := by decide +kernel
set_option maxRecDepth 100000 in
theorem xc_3770e809 : ia_mc 60 = 0 ∧ ia_ms 60 = 0 := ⟨by decide +kernel, by decide +kernel⟩
set_option maxRecDepth 100000 in
theorem xv_6b285cca : cm_rcv 60 [.inr (.inr (some 2))] = true := by decide +kernel
set_option maxRecDepth 100000 in
theorem xd_e758872d : decode (ia_code 198) 3 = .ok (.invokevirtual 71, 3) := fdd_d (by decide +kernel)
set_option maxRecDepth 100000 in
theorem xd_43ce01c2 : decode (ia_code 198) 6 = .ok (.ifCond .ne 27, 3) := fdd_d (by decide +kernel)
set_option maxRecDepth 100000 in
theorem xd_67768fbf : decode (ia_code 198) 9 = .ok (.aload_n 1, 1) := fdd_d (by decide +kernel)
set_option maxRecDepth 100000 in
theorem xd_edd865a9 : decode (ia_code 198) 10 = .ok (.bipush 61, 2) := fdd_d (by decide +kernel)
set_option maxRecDepth 100000 in
theorem xs_60_ff4e6781 {a1 : Int32} {w : cm_W} (h1 : 61 ≤ a1.toInt ∧ a1.toInt ≤ 61) (hG : sv_w sg w) : ∃ x : Int32, cm_C 1 60 [.inr (.inr (some 2)), .inl a1] w (some (.inl x), w) ∧ ((x.toInt = 1) ∨ (x.toInt = 0)) := by
  obtain ⟨r, w', hC, hG', hF, q, hq, hr, hp, hs⟩ := wk_use (d := 1) sm_60_ff4e6781_ok (by decide) (as := [.inr (.inr (some 2)), .inl a1]) (w := w) ⟨rfl, hb_mk (lo := 2147483709) (hi := 2147483709) (by have := h1.1; omega) (by have := h1.2; omega), trivial⟩ (fun f hf => by
    cases hf) hG
  have ew : w' = w := Prod.ext (funext fun k => funext fun i => (hF k i (fun ⟨r, z, _⟩ => by cases z)).1) (funext fun k => funext fun i => (hF k i (fun ⟨r, z, _⟩ => by cases z)).2)
  subst ew
  simp only [sm_60_ff4e6781, List.mem_cons, List.not_mem_nil, or_false] at hq
  rcases hq with rfl | rfl
  · obtain ⟨x, rfl, hx⟩ := wk_int hr
    have hx := hb_in hx
    exact ⟨x, hC, Or.inl (by omega)⟩
  · obtain ⟨x, rfl, hx⟩ := wk_int hr
    have hx := hb_in hx
    exact ⟨x, hC, Or.inr ((by omega))⟩
set_option maxRecDepth 100000 in
theorem xd_e79f76b5 : decode (ia_code 198) 12 = .ok (.invokevirtual 71, 3) := fdd_d (by decide +kernel)
set_option maxRecDepth 100000 in
theorem xd_7396050f : decode (ia_code 198) 15 = .ok (.ifCond .ne 18, 3) := fdd_d (by decide +kernel)
set_option maxRecDepth 100000 in
theorem xd_767ce573 : decode (ia_code 198) 18 = .ok (.aload_n 1, 1) := fdd_d (by decide +kernel)
set_option maxRecDepth 100000 in
theorem xd_31b2b68b : decode (ia_code 198) 19 = .ok (.bipush 62, 2) := fdd_d (by decide +kernel)
set_option maxRecDepth 100000 in
theorem xs_60_bc14a8e6 {a1 : Int32} {w : cm_W} (h1 : 62 ≤ a1.toInt ∧ a1.toInt ≤ 62) (hG : sv_w sg w) : ∃ x : Int32, cm_C 1 60 [.inr (.inr (some 2)), .inl a1] w (some (.inl x), w) ∧ ((x.toInt = 1) ∨ (x.toInt = 0)) := by
  obtain ⟨r, w', hC, hG', hF, q, hq, hr, hp, hs⟩ := wk_use (d := 1) sm_60_bc14a8e6_ok (by decide) (as := [.inr (.inr (some 2)), .inl a1]) (w := w) ⟨rfl, hb_mk (lo := 2147483710) (hi := 2147483710) (by have := h1.1; omega) (by have := h1.2; omega), trivial⟩ (fun f hf => by
    cases hf) hG
  have ew : w' = w := Prod.ext (funext fun k => funext fun i => (hF k i (fun ⟨r, z, _⟩ => by cases z)).1) (funext fun k => funext fun i => (hF k i (fun ⟨r, z, _⟩ => by cases z)).2)
  subst ew
  simp only [sm_60_bc14a8e6, List.mem_cons, List.not_mem_nil, or_false] at hq
  rcases hq with rfl | rfl
  · obtain ⟨x, rfl, hx⟩ := wk_int hr
    have hx := hb_in hx
    exact ⟨x, hC, Or.inl (by omega)⟩
  · obtain ⟨x, rfl, hx⟩ := wk_int hr
    have hx := hb_in hx
    exact ⟨x, hC, Or.inr ((by omega))⟩
set_option maxRecDepth 100000 in
theorem xd_b0166ade : decode (ia_code 198) 21 = .ok (.invokevirtual 71, 3) := fdd_d (by decide +kernel)
set_option maxRecDepth 100000 in
theorem xd_6b6cbd59 : decode (ia_code 198) 24 = .ok (.ifCond .ne 9, 3) := fdd_d (by decide +kernel)
set_option maxRecDepth 100000 in
theorem xd_586297d3 : decode (ia_code 198) 27 = .ok (.aload_n 1, 1) := fdd_d (by decide +kernel)
set_option maxRecDepth 100000 in
theorem xd_abacaa81 : decode (ia_code 198) 28 = .ok (.iconst 1, 1) := fdd_d (by decide +kernel)
set_option maxRecDepth 100000 in
theorem xl_c25ef8b8 : ia_pl (ia_cls 198) 63 = some (1, 63, 0, 0, 1296) := by decide +kernel
set_option maxRecDepth 100000 in
theorem xd_39fcf41a : decode (ia_code 198) 29 = .ok (.invokevirtual 63, 3) := fdd_d (by decide +kernel)
set_option maxRecDepth 100000 in
theorem xd_ad4c742f : decode (ia_code 198) 32 = .ok (.ireturn, 1) := fdd_d (by decide +kernel)
set_option maxRecDepth 100000 in
theorem xd_bda57d1f : decode (ia_code 69) 39 = .ok (.aload_n 0, 1) := fdd_d (by decide +kernel)
set_option maxRecDepth 100000 in
theorem xd_bff3330f : decode (ia_code 69) 40 = .ok (.getfield 24, 3) := fdd_d (by decide +kernel)
set_option maxRecDepth 100000 in
theorem xf_807ad0de : wk_gf 69 24 111 0 0 = true := by decide +kernel
set_option maxRecDepth 100000 in
theorem xd_611e5b4d : decode (ia_code 69) 43 = .ok (.bipush 20, 2) := fdd_d (by decide +kernel)
set_option maxRecDepth 100000 in
theorem xd_ea1d518c : decode (ia_code 69) 45 = .ok (.if_icmp .ge 9, 3) := fdd_d (by decide +kernel)
set_option maxRecDepth 100000 in
theorem xd_ab6e0e9e : decode (ia_code 69) 54 = .ok (.aload_n 1, 1) := fdd_d (by decide +kernel)
set_option maxRecDepth 100000 in
theorem xd_1d165c63 : decode (ia_code 69) 55 = .ok (.iconst 4, 1) := fdd_d (by decide +kernel)
set_option maxRecDepth 100000 in
theorem xl_8c0f12fb : ia_pl (ia_cls 69) 63 = some (1, 63, 0, 0, 1296) := by decide +kernel
set_option maxRecDepth 100000 in
theorem xd_be9f6141 : decode (ia_code 69) 56 = .ok (.invokevirtual 63, 3) := fdd_d (by decide +kernel)
set_option maxRecDepth 100000 in
theorem xd_a75c3a24 : decode (ia_code 69) 59 = .ok (.ireturn, 1) := fdd_d (by decide +kernel)
set_option maxRecDepth 100000 in
theorem xr_8bb113d5 : ia_ret 69 = some .boolean := by decide +kernel
set_option maxRecDepth 100000 in
theorem xd_0a6d0901 : decode (ia_code 69) 48 = .ok (.iload_n 3, 1) := fdd_d (by decide +kernel)
set_option maxRecDepth 100000 in
theorem xd_4629b18c : decode (ia_code 69) 49 = .ok (.bipush 8, 2) := fdd_d (by decide +kernel)
set_option maxRecDepth 100000 in
theorem xd_d783db82 : decode (ia_code 69) 51 = .ok (.if_icmp .le 9, 3) := fdd_d (by decide +kernel)
set_option maxRecDepth 100000 in
theorem xd_069516b1 : decode (ia_code 69) 0 = .ok (.aload_n 1, 1) := fdd_d (by decide +kernel)
set_option maxRecDepth 100000 in
theorem xd_5d0d08c5 : decode (ia_code 69) 1 = .ok (.getfield 57, 3) := fdd_d (by decide +kernel)
set_option maxRecDepth 100000 in
theorem xf_a4947e08 : wk_gf 69 57 2 8 0 = true := by decide +kernel
set_option maxRecDepth 100000 in
theorem xd_8ae2ac79 : decode (ia_code 69) 4 = .ok (.istore 4, 2) := fdd_d (by decide +kernel)
set_option maxRecDepth 100000 in
theorem xm_9986a20b : ia_maxL 69 = 6 := by decide +kernel
set_option maxRecDepth 100000 in
theorem xd_eb5f64cb : decode (ia_code 69) 6 = .ok (.aload_n 1, 1) := fdd_d (by decide +kernel)
set_option maxRecDepth 100000 in
theorem xd_9b99c558 : decode (ia_code 69) 7 = .ok (.bipush 40, 2) := fdd_d (by decide +kernel)
set_option maxRecDepth 100000 in
theorem xs_60_114ee434 {a1 : Int32} {w : cm_W} (h1 : 40 ≤ a1.toInt ∧ a1.toInt ≤ 40) (hG : sv_w sg w) : ∃ x : Int32, cm_C 1 60 [.inr (.inr (some 2)), .inl a1] w (some (.inl x), w) ∧ ((x.toInt = 1) ∨ (x.toInt = 0)) := by
  obtain ⟨r, w', hC, hG', hF, q, hq, hr, hp, hs⟩ := wk_use (d := 1) sm_60_114ee434_ok (by decide) (as := [.inr (.inr (some 2)), .inl a1]) (w := w) ⟨rfl, hb_mk (lo := 2147483688) (hi := 2147483688) (by have := h1.1; omega) (by have := h1.2; omega), trivial⟩ (fun f hf => by
    cases hf) hG
  have ew : w' = w := Prod.ext (funext fun k => funext fun i => (hF k i (fun ⟨r, z, _⟩ => by cases z)).1) (funext fun k => funext fun i => (hF k i (fun ⟨r, z, _⟩ => by cases z)).2)
  subst ew
  simp only [sm_60_114ee434, List.mem_cons, List.not_mem_nil, or_false] at hq
  rcases hq with rfl | rfl
  · obtain ⟨x, rfl, hx⟩ := wk_int hr
    have hx := hb_in hx
    exact ⟨x, hC, Or.inl (by omega)⟩
  · obtain ⟨x, rfl, hx⟩ := wk_int hr
    have hx := hb_in hx
    exact ⟨x, hC, Or.inr ((by omega))⟩
set_option maxRecDepth 100000 in
theorem xl_bb2f47fd : ia_pl (ia_cls 69) 71 = some (1, 60, 0, 0, 1295) := by decide +kernel
set_option maxRecDepth 100000 in
theorem xd_2541b38a : decode (ia_code 69) 9 = .ok (.invokevirtual 71, 3) := fdd_d (by decide +kernel)
set_option maxRecDepth 100000 in
theorem xd_051e84b0 : decode (ia_code 69) 12 = .ok (.istore 5, 2) := fdd_d (by decide +kernel)
set_option maxRecDepth 100000 in
theorem xd_2f3fb062 : decode (ia_code 69) 14 = .ok (.iload 5, 2) := fdd_d (by decide +kernel)
set_option maxRecDepth 100000 in
theorem xd_95665ad6 : decode (ia_code 69) 16 = .ok (.ifCond .ne 23, 3) := fdd_d (by decide +kernel)
set_option maxRecDepth 100000 in
theorem xd_ba8e1781 : decode (ia_code 69) 19 = .ok (.iload 4, 2) := fdd_d (by decide +kernel)
set_option maxRecDepth 100000 in
theorem xd_fd81d28a : decode (ia_code 69) 21 = .ok (.bipush 13, 2) := fdd_d (by decide +kernel)
set_option maxRecDepth 100000 in
theorem xd_7f1574a0 : decode (ia_code 69) 23 = .ok (.if_icmp .lt 10, 3) := fdd_d (by decide +kernel)
set_option maxRecDepth 100000 in
theorem xd_6deac460 : decode (ia_code 69) 33 = .ok (.aload_n 1, 1) := fdd_d (by decide +kernel)
set_option maxRecDepth 100000 in
theorem xd_2f14c5a9 : decode (ia_code 69) 34 = .ok (.iconst 1, 1) := fdd_d (by decide +kernel)
set_option maxRecDepth 100000 in
theorem xd_dc6e36bf : decode (ia_code 69) 35 = .ok (.invokevirtual 63, 3) := fdd_d (by decide +kernel)
set_option maxRecDepth 100000 in
theorem xd_4a77e33a : decode (ia_code 69) 38 = .ok (.ireturn, 1) := fdd_d (by decide +kernel)
set_option maxRecDepth 100000 in
theorem xd_cfe335ef : decode (ia_code 69) 26 = .ok (.iload 4, 2) := fdd_d (by decide +kernel)
set_option maxRecDepth 100000 in
theorem xd_9a1f5ab6 : decode (ia_code 69) 28 = .ok (.bipush 21, 2) := fdd_d (by decide +kernel)
set_option maxRecDepth 100000 in
theorem xd_bcb3ce8d : decode (ia_code 69) 30 = .ok (.if_icmp .le 9, 3) := fdd_d (by decide +kernel)
set_option maxRecDepth 100000 in
theorem xd_ce4c2f95 : decode (ia_code 69) 60 = .ok (.aload_n 0, 1) := fdd_d (by decide +kernel)
set_option maxRecDepth 100000 in
theorem xd_5d36eb78 : decode (ia_code 69) 61 = .ok (.dup, 1) := fdd_d (by decide +kernel)
set_option maxRecDepth 100000 in
theorem xd_3adf5e3d : decode (ia_code 69) 62 = .ok (.getfield 24, 3) := fdd_d (by decide +kernel)
set_option maxRecDepth 100000 in
theorem xd_a313ea2e : decode (ia_code 69) 65 = .ok (.iconst 1, 1) := fdd_d (by decide +kernel)
set_option maxRecDepth 100000 in
theorem xd_0264a2cf : decode (ia_code 69) 66 = .ok (.iadd, 1) := fdd_d (by decide +kernel)
set_option maxRecDepth 100000 in
theorem xd_dd3828f1 : decode (ia_code 69) 67 = .ok (.putfield 24, 3) := fdd_d (by decide +kernel)
set_option maxRecDepth 100000 in
theorem xf_f7b1ce3c : wk_pf 69 24 111 0 0 = true := by decide +kernel
set_option maxRecDepth 100000 in
theorem xd_72096302 : decode (ia_code 69) 70 = .ok (.aload_n 1, 1) := fdd_d (by decide +kernel)
set_option maxRecDepth 100000 in
theorem xl_76a4e030 : ia_pl (ia_cls 69) 60 = some (1, 61, 0, 0, 1297) := by decide +kernel
set_option maxRecDepth 100000 in
theorem xd_51d2630b : decode (ia_code 69) 71 = .ok (.invokevirtual 60, 3) := fdd_d (by decide +kernel)
set_option maxRecDepth 100000 in
theorem xd_5dceeae2 : decode (ia_code 69) 74 = .ok (.iload 5, 2) := fdd_d (by decide +kernel)
set_option maxRecDepth 100000 in
theorem xd_66825ce1 : decode (ia_code 69) 76 = .ok (.ifCond .eq 30, 3) := fdd_d (by decide +kernel)
set_option maxRecDepth 100000 in
theorem xd_21dea796 : decode (ia_code 69) 106 = .ok (.iload 4, 2) := fdd_d (by decide +kernel)
set_option maxRecDepth 100000 in
theorem xd_a182db99 : decode (ia_code 69) 108 = .ok (.tableswitch 102 13 17 #[36, 65, 65, 74, 88], 36) := fdd_d (by decide +kernel)
set_option maxRecDepth 100000 in
theorem xd_f37ebc54 : decode (ia_code 69) 210 = .ok (.aload_n 0, 1) := fdd_d (by decide +kernel)
set_option maxRecDepth 100000 in
theorem xd_556d7f30 : decode (ia_code 69) 211 = .ok (.aload_n 1, 1) := fdd_d (by decide +kernel)
set_option maxRecDepth 100000 in
theorem xd_52eafed0 : decode (ia_code 69) 212 = .ok (.iload 4, 2) := fdd_d (by decide +kernel)
set_option maxRecDepth 100000 in
theorem xl_5bf036ca : ia_pl (ia_cls 69) 81 = some (1, 198, 0, 0, 1304) := by decide +kernel
set_option maxRecDepth 100000 in
theorem xn_b906cb4e : ia_na 198 = 3 := by decide +kernel
set_option maxRecDepth 100000 in
theorem xc_f408fd80 : ia_mc 198 = 0 ∧ ia_ms 198 = 0 := ⟨by decide +kernel, by decide +kernel⟩
set_option maxRecDepth 100000 in
theorem xv_af43f5b6 : cm_rcv 198 [.inr (.inr (some 111))] = true := by decide +kernel
set_option maxRecDepth 100000 in
theorem xd_bd84977a : decode (ia_code 69) 214 = .ok (.invokevirtual 81, 3) := fdd_d (by decide +kernel)
set_option maxRecDepth 100000 in
theorem xd_9ebac750 : decode (ia_code 69) 217 = .ok (.ireturn, 1) := fdd_d (by decide +kernel)
set_option maxRecDepth 100000 in
theorem xd_2eec50ec : decode (ia_code 69) 144 = .ok (.aload_n 0, 1) := fdd_d (by decide +kernel)
set_option maxRecDepth 100000 in
theorem xd_88ff9388 : decode (ia_code 69) 145 = .ok (.aload_n 1, 1) := fdd_d (by decide +kernel)
set_option maxRecDepth 100000 in
theorem xd_b9bad065 : decode (ia_code 69) 146 = .ok (.aload_n 2, 1) := fdd_d (by decide +kernel)
set_option maxRecDepth 100000 in
theorem xd_45aac06c : decode (ia_code 69) 147 = .ok (.iload_n 3, 1) := fdd_d (by decide +kernel)
set_option maxRecDepth 100000 in
theorem xd_78eecfe4 : decode (ia_code 69) 148 = .ok (.iconst 1, 1) := fdd_d (by decide +kernel)
set_option maxRecDepth 100000 in
theorem xd_b36f2f37 : decode (ia_code 69) 149 = .ok (.iadd, 1) := fdd_d (by decide +kernel)
set_option maxRecDepth 100000 in
theorem xl_b6af32ec : ia_pl (ia_cls 69) 50 = some (1, 69, 0, 0, 1291) := by decide +kernel
set_option maxRecDepth 100000 in
theorem xn_1695f0e9 : ia_na 69 = 4 := by decide +kernel
set_option maxRecDepth 100000 in
theorem xc_940bc8b8 : ia_mc 69 = 0 ∧ ia_ms 69 = 0 := ⟨by decide +kernel, by decide +kernel⟩
set_option maxRecDepth 100000 in
theorem xv_ccc6a65d : cm_rcv 69 [.inr (.inr (some 111))] = true := by decide +kernel
set_option maxRecDepth 100000 in
theorem xd_3f798acf : decode (ia_code 69) 150 = .ok (.invokevirtual 50, 3) := fdd_d (by decide +kernel)
set_option maxRecDepth 100000 in
theorem xd_32213380 : decode (ia_code 69) 153 = .ok (.ifCond .eq 18, 3) := fdd_d (by decide +kernel)
set_option maxRecDepth 100000 in
theorem xd_9d009da9 : decode (ia_code 69) 171 = .ok (.iconst 0, 1) := fdd_d (by decide +kernel)
set_option maxRecDepth 100000 in
theorem xd_178d23c8 : decode (ia_code 69) 172 = .ok (.ireturn, 1) := fdd_d (by decide +kernel)
set_option maxRecDepth 100000 in
theorem xd_425fe622 : decode (ia_code 69) 156 = .ok (.aload_n 0, 1) := fdd_d (by decide +kernel)
set_option maxRecDepth 100000 in
theorem xd_18948562 : decode (ia_code 69) 157 = .ok (.bipush 13, 2) := fdd_d (by decide +kernel)
set_option maxRecDepth 100000 in
theorem xd_c9d56840 : decode (ia_code 69) 159 = .ok (.iconst 0, 1) := fdd_d (by decide +kernel)
set_option maxRecDepth 100000 in
theorem xd_115b13bd : decode (ia_code 69) 160 = .ok (.iconst 0, 1) := fdd_d (by decide +kernel)
set_option maxRecDepth 100000 in
theorem xl_d7306f85 : ia_pl (ia_cls 69) 67 = some (1, 191, 0, 0, 1299) := by decide +kernel
set_option maxRecDepth 100000 in
theorem xd_2485fe0a : decode (ia_code 69) 161 = .ok (.invokevirtual 67, 3) := fdd_d (by decide +kernel)
set_option maxRecDepth 100000 in
theorem xd_58ce3122 : decode (ia_code 69) 164 = .ok (.ifCond .eq 7, 3) := fdd_d (by decide +kernel)
set_option maxRecDepth 100000 in
theorem xd_49e2044d : decode (ia_code 69) 167 = .ok (.iconst 1, 1) := fdd_d (by decide +kernel)
set_option maxRecDepth 100000 in
theorem xd_aac2309e : decode (ia_code 69) 168 = .ok (.goto 4, 3) := fdd_d (by decide +kernel)
set_option maxRecDepth 100000 in
theorem xd_004b616a : decode (ia_code 69) 173 = .ok (.aload_n 0, 1) := fdd_d (by decide +kernel)
set_option maxRecDepth 100000 in
theorem xd_a0c398ab : decode (ia_code 69) 174 = .ok (.iload 4, 2) := fdd_d (by decide +kernel)
set_option maxRecDepth 100000 in
theorem xd_f8d9a3e9 : decode (ia_code 69) 176 = .ok (.iconst 0, 1) := fdd_d (by decide +kernel)
set_option maxRecDepth 100000 in
theorem xd_eff1c729 : decode (ia_code 69) 177 = .ok (.iconst 0, 1) := fdd_d (by decide +kernel)
set_option maxRecDepth 100000 in
theorem xd_2e74ebd2 : decode (ia_code 69) 178 = .ok (.invokevirtual 67, 3) := fdd_d (by decide +kernel)
set_option maxRecDepth 100000 in
theorem xd_b009b96b : decode (ia_code 69) 181 = .ok (.ireturn, 1) := fdd_d (by decide +kernel)
set_option maxRecDepth 100000 in
theorem xd_782d8077 : decode (ia_code 69) 182 = .ok (.aload_n 0, 1) := fdd_d (by decide +kernel)
set_option maxRecDepth 100000 in
theorem xd_15be06b3 : decode (ia_code 69) 183 = .ok (.iload 4, 2) := fdd_d (by decide +kernel)
set_option maxRecDepth 100000 in
theorem xd_b7a1d521 : decode (ia_code 69) 185 = .ok (.iconst 0, 1) := fdd_d (by decide +kernel)
set_option maxRecDepth 100000 in
theorem xd_45110854 : decode (ia_code 69) 186 = .ok (.aload_n 1, 1) := fdd_d (by decide +kernel)
set_option maxRecDepth 100000 in
theorem xd_99c29850 : decode (ia_code 69) 187 = .ok (.aload_n 2, 1) := fdd_d (by decide +kernel)
set_option maxRecDepth 100000 in
theorem xd_456b04e1 : decode (ia_code 69) 188 = .ok (.iconst 0, 1) := fdd_d (by decide +kernel)
set_option maxRecDepth 100000 in
theorem xs_188_2ede1899 {a2 : Int32} {w : cm_W} (h2 : 0 ≤ a2.toInt ∧ a2.toInt ≤ 0) (hG : sv_w sg w) : ∃ x : Int32, ∃ w' : cm_W, cm_C 3 188 [.inr (.inr (some 2)), .inr (.inr (some 4)), .inl a2] w (some (.inl x), w') ∧ sv_w sg w' ∧ (∀ k i, ¬ ((k = 2 ∧ 4 ≤ i ∧ i ≤ 12)) → w'.1 k i = w.1 k i ∧ w'.2 k i = w.2 k i) ∧ ((0 ≤ x.toInt ∧ x.toInt ≤ 5) ∨ (x.toInt = (-1))) := by
  obtain ⟨r, w', hC, hG', hF, q, hq, hr, hp, hs⟩ := wk_use (d := 3) sm_188_2ede1899_ok (by decide) (as := [.inr (.inr (some 2)), .inr (.inr (some 4)), .inl a2]) (w := w) ⟨rfl, rfl, hb_mk (lo := 2147483648) (hi := 2147483648) (by have := h2.1; omega) (by have := h2.2; omega), trivial⟩ (fun f hf => by
    cases hf) hG
  have hfr : ∀ k i, ¬ ((k = 2 ∧ 4 ≤ i ∧ i ≤ 12)) → w'.1 k i = w.1 k i ∧ w'.2 k i = w.2 k i := fun k i hki => hF k i (fun ⟨r, z, z1, z2, z3⟩ => by
    simp only [sm_188_2ede1899, List.mem_cons, List.not_mem_nil, or_false] at z
    rcases z with rfl
    all_goals (simp only at z1 z2 z3; omega))
  simp only [sm_188_2ede1899, List.mem_cons, List.not_mem_nil, or_false] at hq
  rcases hq with rfl | rfl
  · obtain ⟨x, rfl, hx⟩ := wk_int hr
    have hx := hb_in hx
    exact ⟨x, w', hC, hG', hfr, Or.inl ⟨by omega, by omega⟩⟩
  · obtain ⟨x, rfl, hx⟩ := wk_int hr
    have hx := hb_in hx
    exact ⟨x, w', hC, hG', hfr, Or.inr ((by omega))⟩
set_option maxRecDepth 100000 in
theorem xl_b17f1c45 : ia_pl (ia_cls 69) 77 = some (1, 188, 0, 0, 1303) := by decide +kernel
set_option maxRecDepth 100000 in
theorem xn_725a18eb : ia_na 188 = 3 := by decide +kernel
set_option maxRecDepth 100000 in
theorem xc_be714b02 : ia_mc 188 = 0 ∧ ia_ms 188 = 0 := ⟨by decide +kernel, by decide +kernel⟩
set_option maxRecDepth 100000 in
theorem xv_0f9d2d2e : cm_rcv 188 [.inr (.inr (some 2))] = true := by decide +kernel
set_option maxRecDepth 100000 in
theorem xd_86c007c0 : decode (ia_code 69) 189 = .ok (.invokevirtual 77, 3) := fdd_d (by decide +kernel)
set_option maxRecDepth 100000 in
theorem xd_3fac07ad : decode (ia_code 69) 192 = .ok (.invokevirtual 67, 3) := fdd_d (by decide +kernel)
set_option maxRecDepth 100000 in
theorem xd_b5d8d910 : decode (ia_code 69) 195 = .ok (.ireturn, 1) := fdd_d (by decide +kernel)
set_option maxRecDepth 100000 in
theorem xd_f95444c3 : decode (ia_code 69) 196 = .ok (.aload_n 0, 1) := fdd_d (by decide +kernel)
set_option maxRecDepth 100000 in
theorem xd_106f66c8 : decode (ia_code 69) 197 = .ok (.iload 4, 2) := fdd_d (by decide +kernel)
set_option maxRecDepth 100000 in
theorem xd_c9308af5 : decode (ia_code 69) 199 = .ok (.iconst 0, 1) := fdd_d (by decide +kernel)
set_option maxRecDepth 100000 in
theorem xd_4f3bf0c3 : decode (ia_code 69) 200 = .ok (.aload_n 1, 1) := fdd_d (by decide +kernel)
set_option maxRecDepth 100000 in
theorem xd_93e860c7 : decode (ia_code 69) 201 = .ok (.aload_n 2, 1) := fdd_d (by decide +kernel)
set_option maxRecDepth 100000 in
theorem xd_f01f520f : decode (ia_code 69) 202 = .ok (.iconst 2, 1) := fdd_d (by decide +kernel)
set_option maxRecDepth 100000 in
theorem xs_188_f939e912 {a2 : Int32} {w : cm_W} (h2 : 2 ≤ a2.toInt ∧ a2.toInt ≤ 2) (hG : sv_w sg w) : ∃ x : Int32, ∃ w' : cm_W, cm_C 3 188 [.inr (.inr (some 2)), .inr (.inr (some 4)), .inl a2] w (some (.inl x), w') ∧ sv_w sg w' ∧ (∀ k i, ¬ ((k = 2 ∧ 4 ≤ i ∧ i ≤ 12)) → w'.1 k i = w.1 k i ∧ w'.2 k i = w.2 k i) ∧ ((0 ≤ x.toInt ∧ x.toInt ≤ 5) ∨ (x.toInt = (-1))) := by
  obtain ⟨r, w', hC, hG', hF, q, hq, hr, hp, hs⟩ := wk_use (d := 3) sm_188_f939e912_ok (by decide) (as := [.inr (.inr (some 2)), .inr (.inr (some 4)), .inl a2]) (w := w) ⟨rfl, rfl, hb_mk (lo := 2147483650) (hi := 2147483650) (by have := h2.1; omega) (by have := h2.2; omega), trivial⟩ (fun f hf => by
    cases hf) hG
  have hfr : ∀ k i, ¬ ((k = 2 ∧ 4 ≤ i ∧ i ≤ 12)) → w'.1 k i = w.1 k i ∧ w'.2 k i = w.2 k i := fun k i hki => hF k i (fun ⟨r, z, z1, z2, z3⟩ => by
    simp only [sm_188_f939e912, List.mem_cons, List.not_mem_nil, or_false] at z
    rcases z with rfl
    all_goals (simp only at z1 z2 z3; omega))
  simp only [sm_188_f939e912, List.mem_cons, List.not_mem_nil, or_false] at hq
  rcases hq with rfl | rfl
  · obtain ⟨x, rfl, hx⟩ := wk_int hr
    have hx := hb_in hx
    exact ⟨x, w', hC, hG', hfr, Or.inl ⟨by omega, by omega⟩⟩
  · obtain ⟨x, rfl, hx⟩ := wk_int hr
    have hx := hb_in hx
    exact ⟨x, w', hC, hG', hfr, Or.inr ((by omega))⟩
set_option maxRecDepth 100000 in
theorem xd_785791e6 : decode (ia_code 69) 203 = .ok (.invokevirtual 77, 3) := fdd_d (by decide +kernel)
set_option maxRecDepth 100000 in
theorem xd_7ee82d6b : decode (ia_code 69) 206 = .ok (.invokevirtual 67, 3) := fdd_d (by decide +kernel)
set_option maxRecDepth 100000 in
theorem xd_5a5daf20 : decode (ia_code 69) 209 = .ok (.ireturn, 1) := fdd_d (by decide +kernel)
set_option maxRecDepth 100000 in
theorem xd_d4a3e340 : decode (ia_code 69) 79 = .ok (.aload_n 0, 1) := fdd_d (by decide +kernel)
set_option maxRecDepth 100000 in
theorem xd_911c68cb : decode (ia_code 69) 80 = .ok (.aload_n 1, 1) := fdd_d (by decide +kernel)
set_option maxRecDepth 100000 in
theorem xd_4dcff8cf : decode (ia_code 69) 81 = .ok (.aload_n 2, 1) := fdd_d (by decide +kernel)
set_option maxRecDepth 100000 in
theorem xd_5c493b2f : decode (ia_code 69) 82 = .ok (.iload_n 3, 1) := fdd_d (by decide +kernel)
set_option maxRecDepth 100000 in
theorem xd_3c9181f2 : decode (ia_code 69) 83 = .ok (.iconst 1, 1) := fdd_d (by decide +kernel)
set_option maxRecDepth 100000 in
theorem xd_93cddfda : decode (ia_code 69) 84 = .ok (.iadd, 1) := fdd_d (by decide +kernel)
set_option maxRecDepth 100000 in
theorem xl_1f3fc70f : ia_pl (ia_cls 69) 40 = some (1, 68, 0, 0, 1287) := by decide +kernel
set_option maxRecDepth 100000 in
theorem xn_2bf5d959 : ia_na 68 = 4 := by decide +kernel
set_option maxRecDepth 100000 in
theorem xc_be4385c8 : ia_mc 68 = 0 ∧ ia_ms 68 = 0 := ⟨by decide +kernel, by decide +kernel⟩
set_option maxRecDepth 100000 in
theorem xv_fa3436ae : cm_rcv 68 [.inr (.inr (some 111))] = true := by decide +kernel
set_option maxRecDepth 100000 in
theorem xd_b211929f : decode (ia_code 69) 85 = .ok (.invokevirtual 40, 3) := fdd_d (by decide +kernel)
set_option maxRecDepth 100000 in
theorem xd_d37798bc : decode (ia_code 69) 88 = .ok (.ifCond .eq 16, 3) := fdd_d (by decide +kernel)
set_option maxRecDepth 100000 in
theorem xd_a030f2c7 : decode (ia_code 69) 104 = .ok (.iconst 0, 1) := fdd_d (by decide +kernel)
set_option maxRecDepth 100000 in
theorem xd_1bb39bd0 : decode (ia_code 69) 105 = .ok (.ireturn, 1) := fdd_d (by decide +kernel)
set_option maxRecDepth 100000 in
theorem xd_8b4ae738 : decode (ia_code 69) 91 = .ok (.aload_n 1, 1) := fdd_d (by decide +kernel)
set_option maxRecDepth 100000 in
theorem xd_2b7abcf2 : decode (ia_code 69) 92 = .ok (.bipush 41, 2) := fdd_d (by decide +kernel)
set_option maxRecDepth 100000 in
theorem xs_190_85f3dad8 {a1 : Int32} {w : cm_W} (h1 : 41 ≤ a1.toInt ∧ a1.toInt ≤ 41) (hG : sv_w sg w) : ∃ x : Int32, ∃ w' : cm_W, cm_C 3 190 [.inr (.inr (some 2)), .inl a1] w (some (.inl x), w') ∧ sv_w sg w' ∧ (∀ k i, ¬ ((k = 2 ∧ 4 ≤ i ∧ i ≤ 12)) → w'.1 k i = w.1 k i ∧ w'.2 k i = w.2 k i) ∧ ((x.toInt = 0) ∨ (x.toInt = 1)) := by
  obtain ⟨r, w', hC, hG', hF, q, hq, hr, hp, hs⟩ := wk_use (d := 3) sm_190_85f3dad8_ok (by decide) (as := [.inr (.inr (some 2)), .inl a1]) (w := w) ⟨rfl, hb_mk (lo := 2147483689) (hi := 2147483689) (by have := h1.1; omega) (by have := h1.2; omega), trivial⟩ (fun f hf => by
    cases hf) hG
  have hfr : ∀ k i, ¬ ((k = 2 ∧ 4 ≤ i ∧ i ≤ 12)) → w'.1 k i = w.1 k i ∧ w'.2 k i = w.2 k i := fun k i hki => hF k i (fun ⟨r, z, z1, z2, z3⟩ => by
    simp only [sm_190_85f3dad8, List.mem_cons, List.not_mem_nil, or_false] at z
    rcases z with rfl
    all_goals (simp only at z1 z2 z3; omega))
  simp only [sm_190_85f3dad8, List.mem_cons, List.not_mem_nil, or_false] at hq
  rcases hq with rfl | rfl
  · obtain ⟨x, rfl, hx⟩ := wk_int hr
    have hx := hb_in hx
    exact ⟨x, w', hC, hG', hfr, Or.inl (by omega)⟩
  · obtain ⟨x, rfl, hx⟩ := wk_int hr
    have hx := hb_in hx
    exact ⟨x, w', hC, hG', hfr, Or.inr ((by omega))⟩
set_option maxRecDepth 100000 in
theorem xl_ca4c37d6 : ia_pl (ia_cls 69) 74 = some (1, 190, 0, 0, 1298) := by decide +kernel
set_option maxRecDepth 100000 in
theorem xd_f3824d28 : decode (ia_code 69) 94 = .ok (.invokevirtual 74, 3) := fdd_d (by decide +kernel)
set_option maxRecDepth 100000 in
theorem xd_68137964 : decode (ia_code 69) 97 = .ok (.ifCond .eq 7, 3) := fdd_d (by decide +kernel)
set_option maxRecDepth 100000 in
theorem xd_c1f14877 : decode (ia_code 69) 100 = .ok (.iconst 1, 1) := fdd_d (by decide +kernel)
set_option maxRecDepth 100000 in
theorem xd_a443d8ac : decode (ia_code 69) 101 = .ok (.goto 4, 3) := fdd_d (by decide +kernel)
set_option maxRecDepth 100000 in
theorem xd_965c75b9 : decode (ia_code 68) 9 = .ok (.iload 6, 2) := fdd_d (by decide +kernel)
set_option maxRecDepth 100000 in
theorem xd_0a27689d : decode (ia_code 68) 11 = .ok (.bipush 20, 2) := fdd_d (by decide +kernel)
set_option maxRecDepth 100000 in
theorem xd_8a4bc166 : decode (ia_code 68) 13 = .ok (.if_icmp .gt 74, 3) := fdd_d (by decide +kernel)
set_option maxRecDepth 100000 in
theorem xd_8929eb24 : decode (ia_code 68) 87 = .ok (.aload_n 1, 1) := fdd_d (by decide +kernel)
set_option maxRecDepth 100000 in
theorem xd_93572355 : decode (ia_code 68) 88 = .ok (.iconst 4, 1) := fdd_d (by decide +kernel)
set_option maxRecDepth 100000 in
theorem xl_7dd51751 : ia_pl (ia_cls 68) 63 = some (1, 63, 0, 0, 1296) := by decide +kernel
set_option maxRecDepth 100000 in
theorem xd_550e8a53 : decode (ia_code 68) 89 = .ok (.invokevirtual 63, 3) := fdd_d (by decide +kernel)
set_option maxRecDepth 100000 in
theorem xd_b9d994bf : decode (ia_code 68) 92 = .ok (.ireturn, 1) := fdd_d (by decide +kernel)
set_option maxRecDepth 100000 in
theorem xr_0c17d896 : ia_ret 68 = some .boolean := by decide +kernel
set_option maxRecDepth 100000 in
theorem xd_7c1271d9 : decode (ia_code 68) 16 = .ok (.aload_n 0, 1) := fdd_d (by decide +kernel)
set_option maxRecDepth 100000 in
theorem xd_da01b2bd : decode (ia_code 68) 17 = .ok (.aload_n 1, 1) := fdd_d (by decide +kernel)
set_option maxRecDepth 100000 in
theorem xd_eba113e5 : decode (ia_code 68) 18 = .ok (.aload_n 2, 1) := fdd_d (by decide +kernel)
set_option maxRecDepth 100000 in
theorem xd_17b103ec : decode (ia_code 68) 19 = .ok (.iload_n 3, 1) := fdd_d (by decide +kernel)
set_option maxRecDepth 100000 in
theorem xl_47753746 : ia_pl (ia_cls 68) 50 = some (1, 69, 0, 0, 1291) := by decide +kernel
set_option maxRecDepth 100000 in
theorem xd_fadce80e : decode (ia_code 68) 20 = .ok (.invokevirtual 50, 3) := fdd_d (by decide +kernel)
set_option maxRecDepth 100000 in
theorem xd_bbca0010 : decode (ia_code 68) 23 = .ok (.ifCond .ne 5, 3) := fdd_d (by decide +kernel)
set_option maxRecDepth 100000 in
theorem xd_c97fe9ad : decode (ia_code 68) 28 = .ok (.aload_n 0, 1) := fdd_d (by decide +kernel)
set_option maxRecDepth 100000 in
theorem xd_aed4a35d : decode (ia_code 68) 29 = .ok (.bipush 12, 2) := fdd_d (by decide +kernel)
set_option maxRecDepth 100000 in
theorem xd_29c76ec9 : decode (ia_code 68) 31 = .ok (.iload 5, 2) := fdd_d (by decide +kernel)
set_option maxRecDepth 100000 in
theorem xl_c1c38a38 : ia_pl (ia_cls 68) 53 = some (1, 194, 0, 0, 1309) := by decide +kernel
set_option maxRecDepth 100000 in
theorem xn_7cf6264f : ia_na 194 = 3 := by decide +kernel
set_option maxRecDepth 100000 in
theorem xc_311df234 : ia_mc 194 = 0 ∧ ia_ms 194 = 0 := ⟨by decide +kernel, by decide +kernel⟩
set_option maxRecDepth 100000 in
theorem xv_186c37a3 : cm_rcv 194 [.inr (.inr (some 111))] = true := by decide +kernel
set_option maxRecDepth 100000 in
theorem xd_f73a5f17 : decode (ia_code 68) 33 = .ok (.invokevirtual 53, 3) := fdd_d (by decide +kernel)
set_option maxRecDepth 100000 in
theorem xd_533462ce : decode (ia_code 68) 36 = .ok (.istore 5, 2) := fdd_d (by decide +kernel)
set_option maxRecDepth 100000 in
theorem xm_d3e1bb2d : ia_maxL 68 = 7 := by decide +kernel
set_option maxRecDepth 100000 in
theorem xd_753aa53a : decode (ia_code 68) 38 = .ok (.aload_n 1, 1) := fdd_d (by decide +kernel)
set_option maxRecDepth 100000 in
theorem xd_d712d8dc : decode (ia_code 68) 39 = .ok (.getfield 57, 3) := fdd_d (by decide +kernel)
set_option maxRecDepth 100000 in
theorem xf_2332b54b : wk_gf 68 57 2 8 0 = true := by decide +kernel
set_option maxRecDepth 100000 in
theorem xd_68b58b16 : decode (ia_code 68) 42 = .ok (.bipush 12, 2) := fdd_d (by decide +kernel)
set_option maxRecDepth 100000 in
theorem xd_9539b937 : decode (ia_code 68) 44 = .ok (.if_icmp .ne 9, 3) := fdd_d (by decide +kernel)
set_option maxRecDepth 100000 in
theorem xd_8e3ba4c1 : decode (ia_code 68) 53 = .ok (.aload_n 0, 1) := fdd_d (by decide +kernel)
set_option maxRecDepth 100000 in
theorem xd_43fae69b : decode (ia_code 68) 54 = .ok (.bipush 11, 2) := fdd_d (by decide +kernel)
set_option maxRecDepth 100000 in
theorem xd_0fb19ba1 : decode (ia_code 68) 56 = .ok (.iload 4, 2) := fdd_d (by decide +kernel)
set_option maxRecDepth 100000 in
theorem xd_adbd16e8 : decode (ia_code 68) 58 = .ok (.invokevirtual 53, 3) := fdd_d (by decide +kernel)
set_option maxRecDepth 100000 in
theorem xd_90a23e79 : decode (ia_code 68) 61 = .ok (.istore 4, 2) := fdd_d (by decide +kernel)
set_option maxRecDepth 100000 in
theorem xd_eb452459 : decode (ia_code 68) 63 = .ok (.aload_n 1, 1) := fdd_d (by decide +kernel)
set_option maxRecDepth 100000 in
theorem xd_68a6a1d7 : decode (ia_code 68) 64 = .ok (.getfield 57, 3) := fdd_d (by decide +kernel)
set_option maxRecDepth 100000 in
theorem xd_6d01768e : decode (ia_code 68) 67 = .ok (.bipush 11, 2) := fdd_d (by decide +kernel)
set_option maxRecDepth 100000 in
theorem xd_5016ac09 : decode (ia_code 68) 69 = .ok (.if_icmp .eq 5, 3) := fdd_d (by decide +kernel)
set_option maxRecDepth 100000 in
theorem xd_c855c2ad : decode (ia_code 68) 74 = .ok (.iconst 1, 1) := fdd_d (by decide +kernel)
set_option maxRecDepth 100000 in
theorem xd_577047ad : decode (ia_code 68) 75 = .ok (.istore 4, 2) := fdd_d (by decide +kernel)
set_option maxRecDepth 100000 in
theorem xd_6a3ce0ed : decode (ia_code 68) 77 = .ok (.aload_n 1, 1) := fdd_d (by decide +kernel)
set_option maxRecDepth 100000 in
theorem xl_877ee59a : ia_pl (ia_cls 68) 60 = some (1, 61, 0, 0, 1297) := by decide +kernel
set_option maxRecDepth 100000 in
theorem xd_7146cf34 : decode (ia_code 68) 78 = .ok (.invokevirtual 60, 3) := fdd_d (by decide +kernel)
set_option maxRecDepth 100000 in
theorem xd_33f5c8ff : decode (ia_code 68) 81 = .ok (.iinc 6 1, 3) := fdd_d (by decide +kernel)
set_option maxRecDepth 100000 in
theorem xd_2c4679b5 : decode (ia_code 68) 84 = .ok (.goto (-75), 3) := fdd_d (by decide +kernel)
set_option maxRecDepth 100000 in
theorem xd_baa4982d : decode (ia_code 68) 72 = .ok (.iconst 1, 1) := fdd_d (by decide +kernel)
set_option maxRecDepth 100000 in
theorem xd_edb16ba1 : decode (ia_code 68) 73 = .ok (.ireturn, 1) := fdd_d (by decide +kernel)
set_option maxRecDepth 100000 in
theorem xd_87c856d0 : decode (ia_code 68) 47 = .ok (.iconst 1, 1) := fdd_d (by decide +kernel)
set_option maxRecDepth 100000 in
theorem xd_ee3f86e0 : decode (ia_code 68) 48 = .ok (.istore 5, 2) := fdd_d (by decide +kernel)
set_option maxRecDepth 100000 in
theorem xd_db337997 : decode (ia_code 68) 50 = .ok (.goto 27, 3) := fdd_d (by decide +kernel)
set_option maxRecDepth 100000 in
theorem xd_404a69da : decode (ia_code 68) 26 = .ok (.iconst 0, 1) := fdd_d (by decide +kernel)
set_option maxRecDepth 100000 in
theorem xd_b4c198da : decode (ia_code 68) 27 = .ok (.ireturn, 1) := fdd_d (by decide +kernel)
set_option maxRecDepth 100000 in
theorem xd_c6a56707 : decode (ia_code 68) 0 = .ok (.iconst 0, 1) := fdd_d (by decide +kernel)
set_option maxRecDepth 100000 in
theorem xd_64e0cbb7 : decode (ia_code 68) 1 = .ok (.istore 4, 2) := fdd_d (by decide +kernel)
set_option maxRecDepth 100000 in
theorem xd_ffddca47 : decode (ia_code 68) 3 = .ok (.iconst 0, 1) := fdd_d (by decide +kernel)
set_option maxRecDepth 100000 in
theorem xd_120915c7 : decode (ia_code 68) 4 = .ok (.istore 5, 2) := fdd_d (by decide +kernel)
set_option maxRecDepth 100000 in
theorem xd_b4543d87 : decode (ia_code 68) 6 = .ok (.iconst 0, 1) := fdd_d (by decide +kernel)
set_option maxRecDepth 100000 in
theorem xd_6cd1c257 : decode (ia_code 68) 7 = .ok (.istore 6, 2) := fdd_d (by decide +kernel)
set_option maxRecDepth 100000 in
theorem xd_5102cf0c : decode (ia_code 67) 0 = .ok (.aload_n 0, 1) := fdd_d (by decide +kernel)
set_option maxRecDepth 100000 in
theorem xl_918b7a4b : ia_pl (ia_cls 67) 37 = some (1, 66, 0, 0, 1286) := by decide +kernel
set_option maxRecDepth 100000 in
theorem xv_20fed55d : cm_rcv 66 [.inr (.inr (some 111))] = true := by decide +kernel
set_option maxRecDepth 100000 in
theorem xd_d32cf9ce : decode (ia_code 67) 1 = .ok (.invokevirtual 37, 3) := fdd_d (by decide +kernel)
set_option maxRecDepth 100000 in
theorem xd_515e6e9f : decode (ia_code 67) 4 = .ok (.aload_n 0, 1) := fdd_d (by decide +kernel)
set_option maxRecDepth 100000 in
theorem xd_f74dadfb : decode (ia_code 67) 5 = .ok (.aload_n 1, 1) := fdd_d (by decide +kernel)
set_option maxRecDepth 100000 in
theorem xd_c608ee16 : decode (ia_code 67) 6 = .ok (.aload_n 2, 1) := fdd_d (by decide +kernel)
set_option maxRecDepth 100000 in
theorem xd_7c471fe8 : decode (ia_code 67) 7 = .ok (.iconst 1, 1) := fdd_d (by decide +kernel)
set_option maxRecDepth 100000 in
theorem xl_b564e464 : ia_pl (ia_cls 67) 40 = some (1, 68, 0, 0, 1287) := by decide +kernel
set_option maxRecDepth 100000 in
theorem xd_781fe86f : decode (ia_code 67) 8 = .ok (.invokevirtual 40, 3) := fdd_d (by decide +kernel)
set_option maxRecDepth 100000 in
theorem xd_58cc278c : decode (ia_code 67) 11 = .ok (.ifCond .eq 14, 3) := fdd_d (by decide +kernel)
set_option maxRecDepth 100000 in
theorem xd_f4d89200 : decode (ia_code 67) 25 = .ok (.iconst 0, 1) := fdd_d (by decide +kernel)
set_option maxRecDepth 100000 in
theorem xd_c940745b : decode (ia_code 67) 26 = .ok (.ireturn, 1) := fdd_d (by decide +kernel)
set_option maxRecDepth 100000 in
theorem xr_ca95eb43 : ia_ret 67 = some .boolean := by decide +kernel
set_option maxRecDepth 100000 in
theorem xd_bcb31b8c : decode (ia_code 67) 14 = .ok (.aload_n 1, 1) := fdd_d (by decide +kernel)
set_option maxRecDepth 100000 in
theorem xl_ecc002f1 : ia_pl (ia_cls 67) 44 = some (1, 59, 0, 0, 1313) := by decide +kernel
set_option maxRecDepth 100000 in
theorem xd_1a27f343 : decode (ia_code 67) 15 = .ok (.invokevirtual 44, 3) := fdd_d (by decide +kernel)
set_option maxRecDepth 100000 in
theorem xd_964fad45 : decode (ia_code 67) 18 = .ok (.ifCond .eq 7, 3) := fdd_d (by decide +kernel)
set_option maxRecDepth 100000 in
theorem xd_951928b0 : decode (ia_code 67) 21 = .ok (.iconst 1, 1) := fdd_d (by decide +kernel)
set_option maxRecDepth 100000 in
theorem xd_5a29ae8a : decode (ia_code 67) 22 = .ok (.goto 4, 3) := fdd_d (by decide +kernel)
set_option maxRecDepth 100000 in
theorem xm_56dce8e5 : ia_maxL 67 = 3 := by decide +kernel
set_option maxRecDepth 100000 in
theorem xd_34384f05 : decode (ia_code 39) 0 = .ok (.aload_n 0, 1) := fdd_d (by decide +kernel)
set_option maxRecDepth 100000 in
theorem xd_9ae0cc05 : decode (ia_code 39) 1 = .ok (.sipush 200, 3) := fdd_d (by decide +kernel)
set_option maxRecDepth 100000 in
theorem xl_3e47df0e : ia_pl (ia_cls 39) 117 = some (1, 33, 0, 0, 707) := by decide +kernel
set_option maxRecDepth 100000 in
theorem xd_08c0def8 : decode (ia_code 39) 4 = .ok (.invokevirtual 117, 3) := fdd_d (by decide +kernel)
set_option maxRecDepth 100000 in
theorem xd_4281d7ab : decode (ia_code 39) 7 = .ok (.aload_n 0, 1) := fdd_d (by decide +kernel)
set_option maxRecDepth 100000 in
theorem xd_58acb742 : decode (ia_code 39) 8 = .ok (.getfield 73, 3) := fdd_d (by decide +kernel)
set_option maxRecDepth 100000 in
theorem xf_d94d3851 : wk_gf 39 73 0 12 (111 + 3) = true := by decide +kernel
set_option maxRecDepth 100000 in
theorem xd_6345fb5f : decode (ia_code 39) 11 = .ok (.aload_n 0, 1) := fdd_d (by decide +kernel)
set_option maxRecDepth 100000 in
theorem xd_6c9bd59c : decode (ia_code 39) 12 = .ok (.getfield 18, 3) := fdd_d (by decide +kernel)
set_option maxRecDepth 100000 in
theorem xf_7815df38 : wk_gf 39 18 0 2 (2 + 3) = true := by decide +kernel
set_option maxRecDepth 100000 in
theorem xd_63195acc : decode (ia_code 39) 15 = .ok (.aload_n 0, 1) := fdd_d (by decide +kernel)
set_option maxRecDepth 100000 in
theorem xd_e9222978 : decode (ia_code 39) 16 = .ok (.getfield 25, 3) := fdd_d (by decide +kernel)
set_option maxRecDepth 100000 in
theorem xf_462eed4f : wk_gf 39 25 0 4 (4 + 3) = true := by decide +kernel
set_option maxRecDepth 100000 in
theorem xl_31408c8b : ia_pl (ia_cls 39) 374 = some (1, 67, 0, 0, 1282) := by decide +kernel
set_option maxRecDepth 100000 in
theorem xn_37c1db2b : ia_na 67 = 3 := by decide +kernel
set_option maxRecDepth 100000 in
theorem xc_e0890a59 : ia_mc 67 = 0 ∧ ia_ms 67 = 0 := ⟨by decide +kernel, by decide +kernel⟩
set_option maxRecDepth 100000 in
theorem xv_160c45ae : cm_rcv 67 [.inr (.inr (some 111))] = true := by decide +kernel
set_option maxRecDepth 100000 in
theorem xd_6f553aa9 : decode (ia_code 39) 19 = .ok (.invokevirtual 374, 3) := fdd_d (by decide +kernel)
set_option maxRecDepth 100000 in
theorem xd_0b553703 : decode (ia_code 39) 22 = .ok (.istore_n 1, 1) := fdd_d (by decide +kernel)
set_option maxRecDepth 100000 in
theorem xm_ce26f7a1 : ia_maxL 39 = 2 := by decide +kernel
set_option maxRecDepth 100000 in
theorem xd_d6cd819e : decode (ia_code 39) 23 = .ok (.aload_n 0, 1) := fdd_d (by decide +kernel)
set_option maxRecDepth 100000 in
theorem xd_a0741930 : decode (ia_code 39) 24 = .ok (.aload_n 0, 1) := fdd_d (by decide +kernel)
set_option maxRecDepth 100000 in
theorem xd_509cc4cc : decode (ia_code 39) 25 = .ok (.getfield 18, 3) := fdd_d (by decide +kernel)
set_option maxRecDepth 100000 in
theorem xd_8f02df24 : decode (ia_code 39) 28 = .ok (.getfield 124, 3) := fdd_d (by decide +kernel)
set_option maxRecDepth 100000 in
theorem xf_3495a8ff : wk_gf 39 124 2 11 0 = true := by decide +kernel
set_option maxRecDepth 100000 in
theorem xd_4ba66c3a : decode (ia_code 39) 31 = .ok (.putfield 127, 3) := fdd_d (by decide +kernel)
set_option maxRecDepth 100000 in
theorem xf_3968b717 : wk_pf 39 127 0 3 0 = true := by decide +kernel
set_option maxRecDepth 100000 in
theorem xd_463286ca : decode (ia_code 39) 34 = .ok (.iload_n 1, 1) := fdd_d (by decide +kernel)
set_option maxRecDepth 100000 in
theorem xd_235de001 : decode (ia_code 39) 35 = .ok (.ifCond .ne 13, 3) := fdd_d (by decide +kernel)
set_option maxRecDepth 100000 in
theorem xd_10aca9d5 : decode (ia_code 39) 48 = .ok (.aload_n 0, 1) := fdd_d (by decide +kernel)
set_option maxRecDepth 100000 in
theorem xd_9891d939 : decode (ia_code 39) 49 = .ok (.getfield 69, 3) := fdd_d (by decide +kernel)
set_option maxRecDepth 100000 in
theorem xf_bfbdf7f5 : wk_gf 39 69 0 11 (106 + 3) = true := by decide +kernel
set_option maxRecDepth 100000 in
theorem xd_7ca65c3d : decode (ia_code 39) 52 = .ok (.aload_n 0, 1) := fdd_d (by decide +kernel)
set_option maxRecDepth 100000 in
theorem xd_420d0140 : decode (ia_code 39) 53 = .ok (.getfield 73, 3) := fdd_d (by decide +kernel)
set_option maxRecDepth 100000 in
theorem xl_33c7b46d : ia_pl (ia_cls 39) 377 = some (1, 65, 0, 0, 1314) := by decide +kernel
set_option maxRecDepth 100000 in
theorem xd_06f786ec : decode (ia_code 39) 56 = .ok (.invokevirtual 377, 3) := fdd_d (by decide +kernel)
set_option maxRecDepth 100000 in
theorem xd_0afa2626 : decode (ia_code 39) 59 = .ok (.aload_n 0, 1) := fdd_d (by decide +kernel)
set_option maxRecDepth 100000 in
theorem xd_045b91ef : decode (ia_code 39) 60 = .ok (.getfield 69, 3) := fdd_d (by decide +kernel)
set_option maxRecDepth 100000 in
theorem xd_8ab9e0aa : decode (ia_code 39) 63 = .ok (.getfield 380, 3) := fdd_d (by decide +kernel)
set_option maxRecDepth 100000 in
theorem xf_1b42a55d : wk_gf 39 380 106 0 0 = true := by decide +kernel
set_option maxRecDepth 100000 in
theorem xd_1fb82803 : decode (ia_code 39) 66 = .ok (.ireturn, 1) := fdd_d (by decide +kernel)
set_option maxRecDepth 100000 in
theorem xr_fc9e7a4e : ia_ret 39 = some .int := by decide +kernel
set_option maxRecDepth 100000 in
theorem xd_490ffb05 : decode (ia_code 39) 38 = .ok (.iconst (-1), 1) := fdd_d (by decide +kernel)
set_option maxRecDepth 100000 in
theorem xd_bac77476 : decode (ia_code 39) 39 = .ok (.aload_n 0, 1) := fdd_d (by decide +kernel)
set_option maxRecDepth 100000 in
theorem xd_3174c388 : decode (ia_code 39) 40 = .ok (.getfield 18, 3) := fdd_d (by decide +kernel)
set_option maxRecDepth 100000 in
theorem xd_51d5afa6 : decode (ia_code 39) 43 = .ok (.getfield 128, 3) := fdd_d (by decide +kernel)
set_option maxRecDepth 100000 in
theorem xf_9a57ba18 : wk_gf 39 128 2 12 0 = true := by decide +kernel
set_option maxRecDepth 100000 in
theorem xd_5a744600 : decode (ia_code 39) 46 = .ok (.isub, 1) := fdd_d (by decide +kernel)
set_option maxRecDepth 100000 in
theorem xd_ae32621d : decode (ia_code 39) 47 = .ok (.ireturn, 1) := fdd_d (by decide +kernel)
/-- what reading a sentence may change -/
def jSf (w0 w : cm_W) : Prop := ∀ k i, k ≠ 2 → ¬ (111 ≤ k ∧ k ≤ 115) → w.1 k i = w0.1 k i
theorem jSf_rf {a : cm_W} : jSf a a := fun _ _ _ _ => rfl
theorem jR_fr {w w' : cm_W} (h : ∀ k i, 111 ≤ k → k ≤ 115 → w'.1 k i = w.1 k i) (hR : jR 111 w) : jR 111 w' := jR_eq (h 111 1 (by omega) (by omega)) (fun i _ => h _ i (by omega) (by omega)) (fun i _ => h _ i (by omega) (by omega)) hR
def jSx (N y : Nat) (dv : Int) : Prop := ∀ (w : cm_W) (q : Int32), q.toInt = dv → jR 111 w → sv_w sg w → ∃ x w', cm_C N y [.inr (.inr (some 111)), .inr (.inr (some 2)), .inr (.inr (some 4)), .inl q] w (some (.inl x), w') ∧ sv_w sg w' ∧ jSf w w' ∧ jR 111 w' ∧ 0 ≤ x.toInt ∧ x.toInt ≤ 1
theorem jas_ok {w : cm_W} {a b c : Int32} (ha : 16 ≤ a.toInt → a.toInt ≤ 17 → -1 ≤ c.toInt ∧ c.toInt ≤ 5) (hR : jR 111 w) (hG : sv_w sg w) : ∃ x w', cm_C 1 191 [.inr (.inr (some 111)), .inl a, .inl b, .inl c] w (some (.inl x), w') ∧ sv_w sg w' ∧ jSf w w' ∧ jR 111 w' ∧ 0 ≤ x.toInt ∧ x.toInt ≤ 1 := by
  have g := hG 111 1
  rw [xg_fc7eb1ec] at g
  have g := hb_in g
  obtain ⟨T, eT⟩ : ∃ T : Nat, (w.1 111 1).toInt = (T : Int) := ⟨(w.1 111 1).toInt.toNat, by omega⟩
  have h : ∃ o, cm_C (0 + 1) 191 [.inr (.inr (some 111)), .inl a, .inl b, .inl c] w o ∧ (fun o : cm_O => ∃ x w', o = (some (.inl x), w') ∧ sv_w sg w' ∧ jSf w w' ∧ jR 111 w' ∧ 0 ≤ x.toInt ∧ x.toInt ≤ 1) o := by
    refine wk_entry (by rw [xm_56cfce18]; exact Nat.le_of_ble_eq_true rfl) ?_
    rw [show cm_ent 191 [.inr (.inr (some 111)), .inl a, .inl b, .inl c] = [some (.inr (.inr (some 111))), some (.inl a), some (.inl b), some (.inl c)] from by unfold cm_ent; rw [xm_56cfce18]; rfl]
    refine wk_iload_n xd_6e4b2d6b rfl ?_
    refine wk_iconst xd_5ab57cdf ?_
    refine wk_icmp xd_bd6e99e7 (t := 14) rfl (fun h2_0 => ?_) (fun h2_0 => ?_)
    · have h2_0 := aw_eq_t (a := ((c).toInt : Int)) (b := ((-1) : Int)) rfl (show ((Int32.ofInt (-1))).toInt = (-1) from by decide) h2_0
      refine wk_iconst xd_b7ff8427 ?_
      exact wk_ireturn xd_637b384e xr_3550d28b wk_z0 ⟨_, _, rfl, hG, jSf_rf, hR, by decide, by decide⟩
    · have h2_0 := aw_eq_f (a := ((c).toInt : Int)) (b := ((-1) : Int)) rfl (show ((Int32.ofInt (-1))).toInt = (-1) from by decide) h2_0
      refine wk_aload_n xd_e8c7cf91 rfl ?_
      refine wk_getI xf_f8f0852a xd_9ec222c5 ?_
      refine wk_bipush xd_3ef74fd3 ?_
      refine wk_icmp xd_08f5ca71 (t := 16) rfl (fun h11_1 => ?_) (fun h11_1 => ?_)
      · have h11_1 := aw_lt_t (a := ((T : Int) : Int)) (b := (40 : Int)) (show ((w.1 111 1)).toInt = ((T : Int) : Int) from eT) (show (((Int8.ofInt 40).toInt32)).toInt = 40 from by decide) h11_1
        refine wk_aload_n xd_0a613054 rfl ?_
        refine wk_getR xf_4ece2c60 xd_1eaf3a67 ?_
        refine wk_aload_n xd_bfb5eb06 rfl ?_
        refine wk_getI xf_f8f0852a xd_0ca7abe6 ?_
        refine wk_iload_n xd_d88ab048 rfl ?_
        refine aw_iastore (i := T) xf_48a404b8 (show ((w.1 111 1)).toInt = ((T : Int) : Int) from eT) (by omega) (by omega) xd_fd3e668f ?_
        have hf3_ : jSf w (cm_u1 w 112 T a) := fun k i x1 x2 => (hs_u1_ne (by omega)).trans (jSf_rf k i x1 x2)
        have hG4_ : sv_w sg (cm_u1 w 112 T a) := sv_w_u1 hG (by rw [aw_tv2 xf_ec3dbc73]; exact sv_in_top _)
        refine wk_aload_n xd_527f997c rfl ?_
        refine wk_getR xf_150cdd5b xd_1978715f ?_
        refine wk_aload_n xd_3e908e21 rfl ?_
        refine wk_getI xf_f8f0852a xd_ebba0d71 ?_
        refine wk_iload_n xd_1e0fafbf rfl ?_
        refine aw_iastore (i := T) xf_d5abe5ce (show (((cm_u1 w 112 T a).1 111 1)).toInt = ((T : Int) : Int) from eT) (by omega) (by omega) xd_ea16024f ?_
        have hf5_ : jSf w (cm_u1 (cm_u1 w 112 T a) 113 T b) := fun k i x1 x2 => (hs_u1_ne (by omega)).trans (hf3_ k i x1 x2)
        have hG6_ : sv_w sg (cm_u1 (cm_u1 w 112 T a) 113 T b) := sv_w_u1 hG4_ (by rw [aw_tv2 xf_27616fd6]; exact sv_in_top _)
        refine wk_aload_n xd_d35afc5b rfl ?_
        refine wk_getR xf_b37f16a1 xd_06f51379 ?_
        refine wk_aload_n xd_0f88b956 rfl ?_
        refine wk_getI xf_f8f0852a xd_33797657 ?_
        refine wk_iload_n xd_1277b178 rfl ?_
        refine aw_iastore (i := T) xf_b0664f0e (show (((cm_u1 (cm_u1 w 112 T a) 113 T b).1 111 1)).toInt = ((T : Int) : Int) from eT) (by omega) (by omega) xd_8fcf3c0f ?_
        have hf7_ : jSf w (cm_u1 (cm_u1 (cm_u1 w 112 T a) 113 T b) 114 T c) := fun k i x1 x2 => (hs_u1_ne (by omega)).trans (hf5_ k i x1 x2)
        have hG8_ : sv_w sg (cm_u1 (cm_u1 (cm_u1 w 112 T a) 113 T b) 114 T c) := sv_w_u1 hG6_ (by rw [aw_tv2 xf_3a645f6e]; exact sv_in_top _)
        refine wk_aload_n xd_e242cb2c rfl ?_
        refine wk_dup_r xd_1857660c ?_
        refine wk_getI xf_f8f0852a xd_baf975ee ?_
        refine wk_iconst xd_c14afbc4 ?_
        refine aw_iadd (a := ((T : Int) : Int)) (b := (1 : Int)) (e := ((T : Int) + 1 : Int)) xd_877f9dbc (show (((cm_u1 (cm_u1 (cm_u1 w 112 T a) 113 T b) 114 T c).1 111 1)).toInt = ((T : Int) : Int) from eT) (show ((Int32.ofInt 1)).toInt = 1 from by decide) (by omega) (by omega) (by omega) (fun v9_ p9_ => ?_)
        refine wk_putI xf_b683cd60 (fun ci => wk_fitI ci) xd_fdd35aa4 ?_
        have hf10_ : jSf w (cm_u1 (cm_u1 (cm_u1 (cm_u1 w 112 T a) 113 T b) 114 T c) 111 1 v9_) := fun k i x1 x2 => (hs_u1_ne (by omega)).trans (hf7_ k i x1 x2)
        have hG11_ : sv_w sg (cm_u1 (cm_u1 (cm_u1 (cm_u1 w 112 T a) 113 T b) 114 T c) 111 1 v9_) := sv_w_u1 hG8_ (by rw [xg_fc7eb1ec]; exact hb_mk (by rw [p9_]; omega) (by rw [p9_]; omega))
        refine wk_iconst xd_a493c584 ?_
        refine wk_ireturn xd_db1eaa33 xr_3550d28b wk_z1 ⟨_, _, rfl, hG11_, hf10_, fun i hi h1 h2 h3 => ?_, by decide, by decide⟩
        rw [hs_u1_self, p9_] at h1
        by_cases e : i = T
        · subst e
          rw [hs_u1_ne (by omega), hs_u1_ne (by omega), hs_u1_ne (by omega), hs_u1_self] at h2 h3
          rw [hs_u1_ne (by omega), hs_u1_self]
          have := ha h2 h3
          omega
        · rw [hs_u1_ne (by omega), hs_u1_ne (by omega), hs_u1_ne (by omega), hs_u1_ne (by omega)] at h2 h3
          rw [hs_u1_ne (by omega), hs_u1_ne (by omega), hs_u1_ne (by omega), hs_u1_ne (by omega)]
          exact hR i hi (by rw [eT]; omega) h2 h3
      · have h11_1 := aw_lt_f (a := ((T : Int) : Int)) (b := (40 : Int)) (show ((w.1 111 1)).toInt = ((T : Int) : Int) from eT) (show (((Int8.ofInt 40).toInt32)).toInt = 40 from by decide) h11_1
        refine wk_iconst xd_b7ff8427 ?_
        exact wk_ireturn xd_637b384e xr_3550d28b wk_z0 ⟨_, _, rfl, hG, jSf_rf, hR, by decide, by decide⟩
  obtain ⟨o, hC, x, w', rfl, a⟩ := h
  exact ⟨x, w', hC, a⟩
theorem jjl_ok {w : cm_W} {j q : Int32} (hj : j.toInt ≤ 12) (hR : jR 111 w) (hG : sv_w sg w) : ∃ x w', cm_C 2 194 [.inr (.inr (some 111)), .inl j, .inl q] w (some (.inl x), w') ∧ sv_w sg w' ∧ jSf w w' ∧ jR 111 w' := by
  have h : ∃ o, cm_C (1 + 1) 194 [.inr (.inr (some 111)), .inl j, .inl q] w o ∧ (fun o : cm_O => ∃ x w', o = (some (.inl x), w') ∧ sv_w sg w' ∧ jSf w w' ∧ jR 111 w') o := by
    refine wk_entry (by rw [xm_004bd4cb]; exact Nat.le_of_ble_eq_true rfl) ?_
    rw [show cm_ent 194 [.inr (.inr (some 111)), .inl j, .inl q] = [some (.inr (.inr (some 111))), some (.inl j), some (.inl q)] from by unfold cm_ent; rw [xm_004bd4cb]; rfl]
    refine wk_iload_n xd_9ea23492 rfl ?_
    refine wk_if xd_7fcc7aed (t := 12) rfl (fun h1_0 => ?_) (fun h1_0 => ?_)
    · have h1_0 := aw_le_t (a := ((q).toInt : Int)) (b := (0 : Int)) rfl hb_z h1_0
      refine wk_iconst xd_0887eeee ?_
      exact wk_ireturn xd_cb70e77d xr_0506dc16 rfl ⟨_, _, rfl, hG, jSf_rf, hR⟩
    · have h1_0 := aw_le_f (a := ((q).toInt : Int)) (b := (0 : Int)) rfl hb_z h1_0
      refine wk_aload_n xd_be3d150c rfl ?_
      refine wk_iload_n xd_422d0505 rfl ?_
      refine wk_iconst xd_e064ebdb ?_
      refine wk_iconst xd_f74c8f1b ?_
      obtain ⟨xA, wA, hCA, hGA, hFA, hRA, hxA, hyA⟩ := jas_ok (w := w) (a := j) (b := (Int32.ofInt 0)) (c := (Int32.ofInt 0)) (fun h1 h2 => absurd h1 (by omega)) hR hG
      refine wk_call (kd := 0) (i := 67) xd_68bc5824 rfl (wk_cal (as := [.inr (.inr (some 111)), .inl j, .inl (Int32.ofInt 0), .inl (Int32.ofInt 0)]) (t := []) xl_8f84ec50 rfl xn_2a723c9c xc_62d23603 rfl rfl xv_f554e49c rfl) (cm_C_mono (by omega) hCA) ?_
      have hf2_ : jSf w wA := fun k i x1 x2 => (hFA k i x1 x2).trans (jSf_rf k i x1 x2)
      refine wk_pop xd_e766aee6 ?_
      refine wk_iconst xd_0887eeee ?_
      exact wk_ireturn xd_cb70e77d xr_0506dc16 rfl ⟨_, _, rfl, hGA, hf2_, hRA⟩
  obtain ⟨o, hC, x, w', rfl, a⟩ := h
  exact ⟨x, w', hC, a⟩
theorem jcm_33 {w : cm_W} (fi : Int32) (hfi : ¬ (16 ≤ fi.toInt ∧ fi.toInt ≤ 17)) (hR : jR 111 w) (hG : sv_w sg w) : cm_X (cm_C 3) 198 33 [some (.inr (.inr (some 111))), some (.inr (.inr (some 2))), some (.inl fi), none] [] w (fun o : cm_O => ∃ x w', o = (some (.inl x), w') ∧ sv_w sg w' ∧ jSf w w' ∧ jR 111 w' ∧ 0 ≤ x.toInt ∧ x.toInt ≤ 1) := by
  have hF0 : jSf w w := jSf_rf
  refine wk_aload_n xd_d91b5367 rfl ?_
  refine wk_getI xf_f5d474a3 xd_215c2cd5 ?_
  refine wk_istore_n xd_9684d0d4 (by rw [xm_5bdfac69]; rfl) rfl ?_
  refine wk_aload_n xd_af47297c rfl ?_
  obtain ⟨wN, hCN, hGN, hFN, hxN⟩ := xs_61_078b38e8 (w := w) hG
  refine wk_call (kd := 0) (i := 60) xd_70bb661b rfl (wk_cal (as := [.inr (.inr (some 2))]) (t := []) xl_38f50a73 rfl xn_568f4fa7 xc_1d38a579 rfl rfl xv_65cfb41b rfl) (cm_C_mono (by omega) hCN) ?_
  have hf1_ : jSf w wN := fun k i x1 x2 => ((hFN k i (by omega)).1).trans (hF0 k i x1 x2)
  have hr2_ : jR 111 wN := jR_fr (w := w) (fun k i k1 k2 => (hFN k i (by omega)).1) hR
  refine wk_aload_n xd_4e10a774 rfl ?_
  refine wk_iload_n xd_f5a0cdad rfl ?_
  refine wk_iload_n xd_be797cb3 rfl ?_
  refine wk_aload_n xd_05c9166a rfl ?_
  refine wk_iconst xd_b0b48dcb ?_
  refine wk_sipush xd_fc865c5b ?_
  obtain ⟨xT, wT, hCT, hGT, hFT, hxT⟩ := xs_189_4d2f1930 (w := wN) (a1 := (Int32.ofInt 0)) (a2 := ((Int16.ofInt 999).toInt32)) (by have e9 : ((Int32.ofInt 0)).toInt = (0 : Int) := (show ((Int32.ofInt 0)).toInt = 0 from by decide); exact ⟨by omega, by omega⟩) (by have e9 : (((Int16.ofInt 999).toInt32)).toInt = (999 : Int) := (show (((Int16.ofInt 999).toInt32)).toInt = 999 from by decide); exact ⟨by omega, by omega⟩) hGN
  refine wk_call (kd := 0) (i := 87) xd_dad75494 rfl (wk_cal (as := [.inr (.inr (some 2)), .inl (Int32.ofInt 0), .inl ((Int16.ofInt 999).toInt32)]) (t := [.inl (w.1 2 10), .inl fi, .inr (.inr (some 111))]) xl_ad4bd201 rfl xn_4f3a315b xc_18628866 rfl rfl xv_017ac5ff rfl) (cm_C_mono (by omega) hCT) ?_
  have hf3_ : jSf w wT := fun k i x1 x2 => ((hFT k i (by omega)).1).trans (hf1_ k i x1 x2)
  have hr4_ : jR 111 wT := jR_fr (w := wN) (fun k i k1 k2 => (hFT k i (by omega)).1) hr2_
  obtain ⟨xA, wA, hCA, hGA, hFA, hRA, hxA, hyA⟩ := jas_ok (w := wT) (a := fi) (b := (w.1 2 10)) (c := xT) (fun h1 h2 => absurd h1 (by omega)) hr4_ hGT
  refine wk_call (kd := 0) (i := 67) xd_a47c10fc rfl (wk_cal (as := [.inr (.inr (some 111)), .inl fi, .inl (w.1 2 10), .inl xT]) (t := []) xl_38ab2e45 rfl xn_2a723c9c xc_62d23603 rfl rfl xv_f554e49c rfl) (cm_C_mono (by omega) hCA) ?_
  have hf5_ : jSf w wA := fun k i x1 x2 => (hFA k i x1 x2).trans (hf3_ k i x1 x2)
  exact wk_ireturn xd_cd442a14 xr_54e65656 (aw_bit (by omega) (by omega)) ⟨_, _, rfl, hGA, hf5_, hRA, by omega, by omega⟩
theorem jcm_ok {w : cm_W} {fi : Int32} (hfi : ¬ (16 ≤ fi.toInt ∧ fi.toInt ≤ 17)) (hR : jR 111 w) (hG : sv_w sg w) : ∃ x w', cm_C 4 198 [.inr (.inr (some 111)), .inr (.inr (some 2)), .inl fi] w (some (.inl x), w') ∧ sv_w sg w' ∧ jSf w w' ∧ jR 111 w' ∧ 0 ≤ x.toInt ∧ x.toInt ≤ 1 := by
  have h : ∃ o, cm_C (3 + 1) 198 [.inr (.inr (some 111)), .inr (.inr (some 2)), .inl fi] w o ∧ (fun o : cm_O => ∃ x w', o = (some (.inl x), w') ∧ sv_w sg w' ∧ jSf w w' ∧ jR 111 w' ∧ 0 ≤ x.toInt ∧ x.toInt ≤ 1) o := by
    refine wk_entry (by rw [xm_5bdfac69]; exact Nat.le_of_ble_eq_true rfl) ?_
    rw [show cm_ent 198 [.inr (.inr (some 111)), .inr (.inr (some 2)), .inl fi] = [some (.inr (.inr (some 111))), some (.inr (.inr (some 2))), some (.inl fi), none] from by unfold cm_ent; rw [xm_5bdfac69]; rfl]
    refine wk_aload_n xd_fcbc264d rfl ?_
    refine wk_bipush xd_c1b226d5 ?_
    obtain ⟨xc6_, hCc6_, hxc6_⟩ := xs_60_6bf3596d (w := w) (a1 := ((Int8.ofInt 60).toInt32)) (by have e9 : (((Int8.ofInt 60).toInt32)).toInt = (60 : Int) := (show (((Int8.ofInt 60).toInt32)).toInt = 60 from by decide); exact ⟨by omega, by omega⟩) hG
    refine wk_call (kd := 0) (i := 71) xd_e758872d rfl (wk_cal (as := [.inr (.inr (some 2)), .inl ((Int8.ofInt 60).toInt32)]) (t := []) xl_f57eadbe rfl xn_f2e637ad xc_3770e809 rfl rfl xv_6b285cca rfl) (cm_C_mono (by omega) hCc6_) ?_
    refine wk_if xd_43ce01c2 (t := 33) rfl (fun h6_6 => ?_) (fun h6_6 => ?_)
    · have h6_6 := aw_ne_t (a := ((xc6_).toInt : Int)) (b := (0 : Int)) rfl hb_z h6_6
      exact jcm_33 fi hfi hR hG
    · have h6_6 := aw_ne_f (a := ((xc6_).toInt : Int)) (b := (0 : Int)) rfl hb_z h6_6
      refine wk_aload_n xd_67768fbf rfl ?_
      refine wk_bipush xd_edd865a9 ?_
      obtain ⟨xc8_, hCc8_, hxc8_⟩ := xs_60_ff4e6781 (w := w) (a1 := ((Int8.ofInt 61).toInt32)) (by have e9 : (((Int8.ofInt 61).toInt32)).toInt = (61 : Int) := (show (((Int8.ofInt 61).toInt32)).toInt = 61 from by decide); exact ⟨by omega, by omega⟩) hG
      refine wk_call (kd := 0) (i := 71) xd_e79f76b5 rfl (wk_cal (as := [.inr (.inr (some 2)), .inl ((Int8.ofInt 61).toInt32)]) (t := []) xl_f57eadbe rfl xn_f2e637ad xc_3770e809 rfl rfl xv_6b285cca rfl) (cm_C_mono (by omega) hCc8_) ?_
      refine wk_if xd_7396050f (t := 33) rfl (fun h15_8 => ?_) (fun h15_8 => ?_)
      · have h15_8 := aw_ne_t (a := ((xc8_).toInt : Int)) (b := (0 : Int)) rfl hb_z h15_8
        exact jcm_33 fi hfi hR hG
      · have h15_8 := aw_ne_f (a := ((xc8_).toInt : Int)) (b := (0 : Int)) rfl hb_z h15_8
        refine wk_aload_n xd_767ce573 rfl ?_
        refine wk_bipush xd_31b2b68b ?_
        obtain ⟨xc10_, hCc10_, hxc10_⟩ := xs_60_bc14a8e6 (w := w) (a1 := ((Int8.ofInt 62).toInt32)) (by have e9 : (((Int8.ofInt 62).toInt32)).toInt = (62 : Int) := (show (((Int8.ofInt 62).toInt32)).toInt = 62 from by decide); exact ⟨by omega, by omega⟩) hG
        refine wk_call (kd := 0) (i := 71) xd_b0166ade rfl (wk_cal (as := [.inr (.inr (some 2)), .inl ((Int8.ofInt 62).toInt32)]) (t := []) xl_f57eadbe rfl xn_f2e637ad xc_3770e809 rfl rfl xv_6b285cca rfl) (cm_C_mono (by omega) hCc10_) ?_
        refine wk_if xd_6b6cbd59 (t := 33) rfl (fun h24_10 => ?_) (fun h24_10 => ?_)
        · have h24_10 := aw_ne_t (a := ((xc10_).toInt : Int)) (b := (0 : Int)) rfl hb_z h24_10
          exact jcm_33 fi hfi hR hG
        · have h24_10 := aw_ne_f (a := ((xc10_).toInt : Int)) (b := (0 : Int)) rfl hb_z h24_10
          refine wk_aload_n xd_586297d3 rfl ?_
          refine wk_iconst xd_abacaa81 ?_
          obtain ⟨xr, wr, hCr, hGr, hFr, hr0, -⟩ := jrf_ok (w := w) (a := (Int32.ofInt 1)) (by decide) hG
          refine wk_call (kd := 0) (i := 63) xd_39fcf41a rfl (wk_cal (as := [.inr (.inr (some 2)), .inl (Int32.ofInt 1)]) (t := []) xl_c25ef8b8 rfl xn_b5464d7d xc_49a83f99 rfl rfl xv_780065b9 rfl) (cm_C_mono (by omega) hCr) ?_
          have hf12_ : jSf w wr := fun k i x1 x2 => (hFr k i (by omega)).trans (jSf_rf k i x1 x2)
          have hRr : jR 111 wr := jR_fr (w := w) (fun k i k1 k2 => hFr k i (by omega)) hR
          exact wk_ireturn xd_ad4c742f xr_54e65656 (aw_bit (by omega) (by omega)) ⟨_, _, rfl, hGr, hf12_, hRr, by omega, by omega⟩
  obtain ⟨o, hC, x, w', rfl, a⟩ := h
  exact ⟨x, w', hC, a⟩
theorem jro_0_39 {w : cm_W} (q f4 f5 : Int32) (hq : q.toInt = (9 : Int)) (hb : 0 ≤ f5.toInt ∧ f5.toInt ≤ 1) (hR : jR 111 w) (hG : sv_w sg w) : cm_X (cm_C 3) 69 39 [some (.inr (.inr (some 111))), some (.inr (.inr (some 2))), some (.inr (.inr (some 4))), some (.inl q), some (.inl f4), some (.inl f5)] [] w (fun o : cm_O => ∃ x w', o = (some (.inl x), w') ∧ sv_w sg w' ∧ jSf w w' ∧ jR 111 w' ∧ 0 ≤ x.toInt ∧ x.toInt ≤ 1) := by
  have hF0 : jSf w w := jSf_rf
  refine wk_aload_n xd_bda57d1f rfl ?_
  refine wk_getI xf_807ad0de xd_bff3330f ?_
  refine wk_bipush xd_611e5b4d ?_
  refine wk_icmp xd_ea1d518c (t := 54) rfl (fun h45_0 => ?_) (fun h45_0 => ?_)
  · have h45_0 := aw_ge_t (a := ((w.1 111 0).toInt : Int)) (b := (20 : Int)) rfl (show (((Int8.ofInt 20).toInt32)).toInt = 20 from by decide) h45_0
    refine wk_aload_n xd_ab6e0e9e rfl ?_
    refine wk_iconst xd_1d165c63 ?_
    obtain ⟨xr, wr, hCr, hGr, hFr, hr0, -⟩ := jrf_ok (w := w) (a := (Int32.ofInt 4)) (by decide) hG
    refine wk_call (kd := 0) (i := 63) xd_be9f6141 rfl (wk_cal (as := [.inr (.inr (some 2)), .inl (Int32.ofInt 4)]) (t := []) xl_8c0f12fb rfl xn_b5464d7d xc_49a83f99 rfl rfl xv_780065b9 rfl) (cm_C_mono (by omega) hCr) ?_
    have hf2_ : jSf w wr := fun k i x1 x2 => (hFr k i (by omega)).trans (hF0 k i x1 x2)
    have hRr : jR 111 wr := jR_fr (w := w) (fun k i k1 k2 => hFr k i (by omega)) hR
    exact wk_ireturn xd_a75c3a24 xr_8bb113d5 (aw_bit (by omega) (by omega)) ⟨_, _, rfl, hGr, hf2_, hRr, by omega, by omega⟩
  · have h45_0 := aw_ge_f (a := ((w.1 111 0).toInt : Int)) (b := (20 : Int)) rfl (show (((Int8.ofInt 20).toInt32)).toInt = 20 from by decide) h45_0
    refine wk_iload_n xd_0a6d0901 rfl ?_
    refine wk_bipush xd_4629b18c ?_
    refine wk_icmp xd_d783db82 (t := 60) rfl (fun h => absurd (aw_le_t hq (show (((Int8.ofInt 8).toInt32)).toInt = 8 from by decide) h) (by omega)) (fun _ => ?_)
    refine wk_aload_n xd_ab6e0e9e rfl ?_
    refine wk_iconst xd_1d165c63 ?_
    obtain ⟨xr, wr, hCr, hGr, hFr, hr0, -⟩ := jrf_ok (w := w) (a := (Int32.ofInt 4)) (by decide) hG
    refine wk_call (kd := 0) (i := 63) xd_be9f6141 rfl (wk_cal (as := [.inr (.inr (some 2)), .inl (Int32.ofInt 4)]) (t := []) xl_8c0f12fb rfl xn_b5464d7d xc_49a83f99 rfl rfl xv_780065b9 rfl) (cm_C_mono (by omega) hCr) ?_
    have hf4_ : jSf w wr := fun k i x1 x2 => (hFr k i (by omega)).trans (hF0 k i x1 x2)
    have hRr : jR 111 wr := jR_fr (w := w) (fun k i k1 k2 => hFr k i (by omega)) hR
    exact wk_ireturn xd_a75c3a24 xr_8bb113d5 (aw_bit (by omega) (by omega)) ⟨_, _, rfl, hGr, hf4_, hRr, by omega, by omega⟩
theorem jro_0 : jSx 4 69 9 := by
  intro w q hq hR hG
  have hq : q.toInt = (9 : Int) := hq.trans (by omega)
  have h : ∃ o, cm_C (3 + 1) 69 [.inr (.inr (some 111)), .inr (.inr (some 2)), .inr (.inr (some 4)), .inl q] w o ∧ (fun o : cm_O => ∃ x w', o = (some (.inl x), w') ∧ sv_w sg w' ∧ jSf w w' ∧ jR 111 w' ∧ 0 ≤ x.toInt ∧ x.toInt ≤ 1) o := by
    refine wk_entry (by rw [xm_9986a20b]; exact Nat.le_of_ble_eq_true rfl) ?_
    rw [show cm_ent 69 [.inr (.inr (some 111)), .inr (.inr (some 2)), .inr (.inr (some 4)), .inl q] = [some (.inr (.inr (some 111))), some (.inr (.inr (some 2))), some (.inr (.inr (some 4))), some (.inl q), none, none] from by unfold cm_ent; rw [xm_9986a20b]; rfl]
    refine wk_aload_n xd_069516b1 rfl ?_
    refine wk_getI xf_a4947e08 xd_5d0d08c5 ?_
    refine wk_istore xd_8ae2ac79 (by rw [xm_9986a20b]; rfl) rfl ?_
    refine wk_aload_n xd_eb5f64cb rfl ?_
    refine wk_bipush xd_9b99c558 ?_
    obtain ⟨xc5_, hCc5_, hxc5_⟩ := xs_60_114ee434 (w := w) (a1 := ((Int8.ofInt 40).toInt32)) (by have e9 : (((Int8.ofInt 40).toInt32)).toInt = (40 : Int) := (show (((Int8.ofInt 40).toInt32)).toInt = 40 from by decide); exact ⟨by omega, by omega⟩) hG
    refine wk_call (kd := 0) (i := 71) xd_2541b38a rfl (wk_cal (as := [.inr (.inr (some 2)), .inl ((Int8.ofInt 40).toInt32)]) (t := []) xl_bb2f47fd rfl xn_f2e637ad xc_3770e809 rfl rfl xv_6b285cca rfl) (cm_C_mono (by omega) hCc5_) ?_
    refine wk_istore xd_051e84b0 (by rw [xm_9986a20b]; rfl) rfl ?_
    refine wk_iload xd_2f3fb062 rfl ?_
    refine wk_if xd_95665ad6 (t := 39) rfl (fun h16_5 => ?_) (fun h16_5 => ?_)
    · have h16_5 := aw_ne_t (a := ((xc5_).toInt : Int)) (b := (0 : Int)) rfl hb_z h16_5
      exact jro_0_39 q (w.1 2 8) xc5_ hq ⟨by omega, by omega⟩ hR hG
    · have h16_5 := aw_ne_f (a := ((xc5_).toInt : Int)) (b := (0 : Int)) rfl hb_z h16_5
      refine wk_iload xd_ba8e1781 rfl ?_
      refine wk_bipush xd_fd81d28a ?_
      refine wk_icmp xd_7f1574a0 (t := 33) rfl (fun h23_6 => ?_) (fun h23_6 => ?_)
      · have h23_6 := aw_lt_t (a := ((w.1 2 8).toInt : Int)) (b := (13 : Int)) rfl (show (((Int8.ofInt 13).toInt32)).toInt = 13 from by decide) h23_6
        refine wk_aload_n xd_6deac460 rfl ?_
        refine wk_iconst xd_2f14c5a9 ?_
        obtain ⟨xr, wr, hCr, hGr, hFr, hr0, -⟩ := jrf_ok (w := w) (a := (Int32.ofInt 1)) (by decide) hG
        refine wk_call (kd := 0) (i := 63) xd_dc6e36bf rfl (wk_cal (as := [.inr (.inr (some 2)), .inl (Int32.ofInt 1)]) (t := []) xl_8c0f12fb rfl xn_b5464d7d xc_49a83f99 rfl rfl xv_780065b9 rfl) (cm_C_mono (by omega) hCr) ?_
        have hf8_ : jSf w wr := fun k i x1 x2 => (hFr k i (by omega)).trans (jSf_rf k i x1 x2)
        have hRr : jR 111 wr := jR_fr (w := w) (fun k i k1 k2 => hFr k i (by omega)) hR
        exact wk_ireturn xd_4a77e33a xr_8bb113d5 (aw_bit (by omega) (by omega)) ⟨_, _, rfl, hGr, hf8_, hRr, by omega, by omega⟩
      · have h23_6 := aw_lt_f (a := ((w.1 2 8).toInt : Int)) (b := (13 : Int)) rfl (show (((Int8.ofInt 13).toInt32)).toInt = 13 from by decide) h23_6
        refine wk_iload xd_cfe335ef rfl ?_
        refine wk_bipush xd_9a1f5ab6 ?_
        refine wk_icmp xd_bcb3ce8d (t := 39) rfl (fun h30_8 => ?_) (fun h30_8 => ?_)
        · have h30_8 := aw_le_t (a := ((w.1 2 8).toInt : Int)) (b := (21 : Int)) rfl (show (((Int8.ofInt 21).toInt32)).toInt = 21 from by decide) h30_8
          exact jro_0_39 q (w.1 2 8) xc5_ hq ⟨by omega, by omega⟩ hR hG
        · have h30_8 := aw_le_f (a := ((w.1 2 8).toInt : Int)) (b := (21 : Int)) rfl (show (((Int8.ofInt 21).toInt32)).toInt = 21 from by decide) h30_8
          refine wk_aload_n xd_6deac460 rfl ?_
          refine wk_iconst xd_2f14c5a9 ?_
          obtain ⟨xr, wr, hCr, hGr, hFr, hr0, -⟩ := jrf_ok (w := w) (a := (Int32.ofInt 1)) (by decide) hG
          refine wk_call (kd := 0) (i := 63) xd_dc6e36bf rfl (wk_cal (as := [.inr (.inr (some 2)), .inl (Int32.ofInt 1)]) (t := []) xl_8c0f12fb rfl xn_b5464d7d xc_49a83f99 rfl rfl xv_780065b9 rfl) (cm_C_mono (by omega) hCr) ?_
          have hf10_ : jSf w wr := fun k i x1 x2 => (hFr k i (by omega)).trans (jSf_rf k i x1 x2)
          have hRr : jR 111 wr := jR_fr (w := w) (fun k i k1 k2 => hFr k i (by omega)) hR
          exact wk_ireturn xd_4a77e33a xr_8bb113d5 (aw_bit (by omega) (by omega)) ⟨_, _, rfl, hGr, hf10_, hRr, by omega, by omega⟩
  obtain ⟨o, hC, x, w', rfl, a⟩ := h
  exact ⟨x, w', cm_C_mono (by omega) hC, a⟩
theorem jro_s_39 (d : Nat) (hc : jSx (5 + 2 * d) 68 (9 - (d : Int))) (ho : jSx (4 + 2 * d) 69 (9 - (d : Int))) {w : cm_W} (q f4 f5 : Int32) (hq : q.toInt = ((-1) * (d : Int) + 8 : Int)) (hd : d ≤ 8) (hb : 0 ≤ f5.toInt ∧ f5.toInt ≤ 1) (hR : jR 111 w) (hG : sv_w sg w) : cm_X (cm_C (5 + 2 * d)) 69 39 [some (.inr (.inr (some 111))), some (.inr (.inr (some 2))), some (.inr (.inr (some 4))), some (.inl q), some (.inl f4), some (.inl f5)] [] w (fun o : cm_O => ∃ x w', o = (some (.inl x), w') ∧ sv_w sg w' ∧ jSf w w' ∧ jR 111 w' ∧ 0 ≤ x.toInt ∧ x.toInt ≤ 1) := by
  have hF0 : jSf w w := jSf_rf
  refine wk_aload_n xd_bda57d1f rfl ?_
  refine wk_getI xf_807ad0de xd_bff3330f ?_
  refine wk_bipush xd_611e5b4d ?_
  refine wk_icmp xd_ea1d518c (t := 54) rfl (fun h45_0 => ?_) (fun h45_0 => ?_)
  · have h45_0 := aw_ge_t (a := ((w.1 111 0).toInt : Int)) (b := (20 : Int)) rfl (show (((Int8.ofInt 20).toInt32)).toInt = 20 from by decide) h45_0
    refine wk_aload_n xd_ab6e0e9e rfl ?_
    refine wk_iconst xd_1d165c63 ?_
    obtain ⟨xr, wr, hCr, hGr, hFr, hr0, -⟩ := jrf_ok (w := w) (a := (Int32.ofInt 4)) (by decide) hG
    refine wk_call (kd := 0) (i := 63) xd_be9f6141 rfl (wk_cal (as := [.inr (.inr (some 2)), .inl (Int32.ofInt 4)]) (t := []) xl_8c0f12fb rfl xn_b5464d7d xc_49a83f99 rfl rfl xv_780065b9 rfl) (cm_C_mono (by omega) hCr) ?_
    have hf2_ : jSf w wr := fun k i x1 x2 => (hFr k i (by omega)).trans (hF0 k i x1 x2)
    have hRr : jR 111 wr := jR_fr (w := w) (fun k i k1 k2 => hFr k i (by omega)) hR
    exact wk_ireturn xd_a75c3a24 xr_8bb113d5 (aw_bit (by omega) (by omega)) ⟨_, _, rfl, hGr, hf2_, hRr, by omega, by omega⟩
  · have h45_0 := aw_ge_f (a := ((w.1 111 0).toInt : Int)) (b := (20 : Int)) rfl (show (((Int8.ofInt 20).toInt32)).toInt = 20 from by decide) h45_0
    refine wk_iload_n xd_0a6d0901 rfl ?_
    refine wk_bipush xd_4629b18c ?_
    refine wk_icmp xd_d783db82 (t := 60) rfl (fun h51_2 => ?_) (fun h51_2 => ?_)
    · have h51_2 := aw_le_t (a := ((-1) * (d : Int) + 8 : Int)) (b := (8 : Int)) hq (show (((Int8.ofInt 8).toInt32)).toInt = 8 from by decide) h51_2
      refine wk_aload_n xd_ce4c2f95 rfl ?_
      refine wk_dup_r xd_5d36eb78 ?_
      refine wk_getI xf_807ad0de xd_3adf5e3d ?_
      refine wk_iconst xd_a313ea2e ?_
      refine wk_iadd xd_0264a2cf ?_
      refine wk_putI xf_f7b1ce3c (fun ci => wk_fitI ci) xd_dd3828f1 ?_
      have hf4_ : jSf w (cm_u1 w 111 0 ((w.1 111 0) + (Int32.ofInt 1))) := fun k i x1 x2 => (hs_u1_ne (by omega)).trans (hF0 k i x1 x2)
      have hG5_ : sv_w sg (cm_u1 w 111 0 ((w.1 111 0) + (Int32.ofInt 1))) := sv_w_u1 hG (by rw [xg_5d023c7b]; exact sv_in_top _)
      have hc6_ : jR 111 (cm_u1 w 111 0 ((w.1 111 0) + (Int32.ofInt 1))) := jR_eq (w := w) (s := 111) (hs_u1_ne (by omega)) (fun i _ => hs_u1_ne (by omega)) (fun i _ => hs_u1_ne (by omega)) hR
      refine wk_aload_n xd_72096302 rfl ?_
      obtain ⟨wN, hCN, hGN, hFN, hxN⟩ := xs_61_078b38e8 (w := (cm_u1 w 111 0 ((w.1 111 0) + (Int32.ofInt 1)))) hG5_
      refine wk_call (kd := 0) (i := 60) xd_51d2630b rfl (wk_cal (as := [.inr (.inr (some 2))]) (t := []) xl_76a4e030 rfl xn_568f4fa7 xc_1d38a579 rfl rfl xv_65cfb41b rfl) (cm_C_mono (by omega) hCN) ?_
      have hf7_ : jSf w wN := fun k i x1 x2 => ((hFN k i (by omega)).1).trans (hf4_ k i x1 x2)
      have hr8_ : jR 111 wN := jR_fr (w := (cm_u1 w 111 0 ((w.1 111 0) + (Int32.ofInt 1)))) (fun k i k1 k2 => (hFN k i (by omega)).1) hc6_
      refine wk_iload xd_5dceeae2 rfl ?_
      refine wk_if xd_66825ce1 (t := 106) rfl (fun h76_8 => ?_) (fun h76_8 => ?_)
      · have h76_8 := aw_eq_t (a := ((f5).toInt : Int)) (b := (0 : Int)) rfl hb_z h76_8
        refine wk_iload xd_21dea796 rfl ?_
        have hkw : f4.toInt < 13 ∨ 17 < f4.toInt ∨ f4.toInt = 13 ∨ f4.toInt = 14 ∨ f4.toInt = 15 ∨ f4.toInt = 16 ∨ f4.toInt = 17 := by omega
        rcases hkw with hkw | hkw | hkw | hkw | hkw | hkw | hkw
        · refine aw_tsd xd_a182db99 rfl (.inl hkw) (t := 210) rfl ?_
          refine wk_aload_n xd_f37ebc54 rfl ?_
          refine wk_aload_n xd_556d7f30 rfl ?_
          refine wk_iload xd_52eafed0 rfl ?_
          obtain ⟨xM, wM, hCM, hGM, hFM, hRM, hxM, hyM⟩ := jcm_ok (w := wN) (fi := f4) (by omega) hr8_ hGN
          refine wk_call (kd := 0) (i := 81) xd_bd84977a rfl (wk_cal (as := [.inr (.inr (some 111)), .inr (.inr (some 2)), .inl f4]) (t := []) xl_5bf036ca rfl xn_b906cb4e xc_f408fd80 rfl rfl xv_af43f5b6 rfl) (cm_C_mono (by omega) hCM) ?_
          have hf10_ : jSf w wM := fun k i x1 x2 => (hFM k i x1 x2).trans (hf7_ k i x1 x2)
          exact wk_ireturn xd_9ebac750 xr_8bb113d5 (aw_bit (by omega) (by omega)) ⟨_, _, rfl, hGM, hf10_, hRM, by omega, by omega⟩
        · refine aw_tsd xd_a182db99 rfl (.inr hkw) (t := 210) rfl ?_
          refine wk_aload_n xd_f37ebc54 rfl ?_
          refine wk_aload_n xd_556d7f30 rfl ?_
          refine wk_iload xd_52eafed0 rfl ?_
          obtain ⟨xM, wM, hCM, hGM, hFM, hRM, hxM, hyM⟩ := jcm_ok (w := wN) (fi := f4) (by omega) hr8_ hGN
          refine wk_call (kd := 0) (i := 81) xd_bd84977a rfl (wk_cal (as := [.inr (.inr (some 111)), .inr (.inr (some 2)), .inl f4]) (t := []) xl_5bf036ca rfl xn_b906cb4e xc_f408fd80 rfl rfl xv_af43f5b6 rfl) (cm_C_mono (by omega) hCM) ?_
          have hf11_ : jSf w wM := fun k i x1 x2 => (hFM k i x1 x2).trans (hf7_ k i x1 x2)
          exact wk_ireturn xd_9ebac750 xr_8bb113d5 (aw_bit (by omega) (by omega)) ⟨_, _, rfl, hGM, hf11_, hRM, by omega, by omega⟩
        · refine aw_tsw xd_a182db99 hkw (by omega) (by omega) (t := 144) rfl rfl ?_
          refine wk_aload_n xd_2eec50ec rfl ?_
          refine wk_aload_n xd_88ff9388 rfl ?_
          refine wk_aload_n xd_b9bad065 rfl ?_
          refine wk_iload_n xd_45aac06c rfl ?_
          refine wk_iconst xd_78eecfe4 ?_
          refine aw_iadd (a := ((-1) * (d : Int) + 8 : Int)) (b := (1 : Int)) (e := ((-1) * (d : Int) + 9 : Int)) xd_b36f2f37 hq (show ((Int32.ofInt 1)).toInt = 1 from by decide) (by omega) (by omega) (by omega) (fun v12_ p12_ => ?_)
          obtain ⟨xO, wO, hCO, hGO, hFO, hRO, hxO, hyO⟩ := ho wN v12_ (p12_.trans (by omega)) hr8_ hGN
          refine wk_call (kd := 0) (i := 50) xd_3f798acf rfl (wk_cal (as := [.inr (.inr (some 111)), .inr (.inr (some 2)), .inr (.inr (some 4)), .inl v12_]) (t := []) xl_b6af32ec rfl xn_1695f0e9 xc_940bc8b8 rfl rfl xv_ccc6a65d rfl) (cm_C_mono (by omega) hCO) ?_
          have hf13_ : jSf w wO := fun k i x1 x2 => (hFO k i x1 x2).trans (hf7_ k i x1 x2)
          refine wk_if xd_32213380 (t := 171) rfl (fun h153_13 => ?_) (fun h153_13 => ?_)
          · have h153_13 := aw_eq_t (a := ((xO).toInt : Int)) (b := (0 : Int)) rfl hb_z h153_13
            refine wk_iconst xd_9d009da9 ?_
            exact wk_ireturn xd_178d23c8 xr_8bb113d5 wk_z0 ⟨_, _, rfl, hGO, hf13_, hRO, by decide, by decide⟩
          · have h153_13 := aw_eq_f (a := ((xO).toInt : Int)) (b := (0 : Int)) rfl hb_z h153_13
            refine wk_aload_n xd_425fe622 rfl ?_
            refine wk_bipush xd_18948562 ?_
            refine wk_iconst xd_c9d56840 ?_
            refine wk_iconst xd_115b13bd ?_
            obtain ⟨xA, wA, hCA, hGA, hFA, hRA, hxA, hyA⟩ := jas_ok (w := wO) (a := ((Int8.ofInt 13).toInt32)) (b := (Int32.ofInt 0)) (c := (Int32.ofInt 0)) (fun h1 h2 => by have e9 : (((Int8.ofInt 13).toInt32)).toInt = (13 : Int) := (show (((Int8.ofInt 13).toInt32)).toInt = 13 from by decide); have e8 : ((Int32.ofInt 0)).toInt = (0 : Int) := (show ((Int32.ofInt 0)).toInt = 0 from by decide); omega) hRO hGO
            refine wk_call (kd := 0) (i := 67) xd_2485fe0a rfl (wk_cal (as := [.inr (.inr (some 111)), .inl ((Int8.ofInt 13).toInt32), .inl (Int32.ofInt 0), .inl (Int32.ofInt 0)]) (t := []) xl_d7306f85 rfl xn_2a723c9c xc_62d23603 rfl rfl xv_f554e49c rfl) (cm_C_mono (by omega) hCA) ?_
            have hf15_ : jSf w wA := fun k i x1 x2 => (hFA k i x1 x2).trans (hf13_ k i x1 x2)
            refine wk_if xd_58ce3122 (t := 171) rfl (fun h164_15 => ?_) (fun h164_15 => ?_)
            · have h164_15 := aw_eq_t (a := ((xA).toInt : Int)) (b := (0 : Int)) rfl hb_z h164_15
              refine wk_iconst xd_9d009da9 ?_
              exact wk_ireturn xd_178d23c8 xr_8bb113d5 wk_z0 ⟨_, _, rfl, hGA, hf15_, hRA, by decide, by decide⟩
            · have h164_15 := aw_eq_f (a := ((xA).toInt : Int)) (b := (0 : Int)) rfl hb_z h164_15
              refine wk_iconst xd_49e2044d ?_
              refine wk_goto xd_aac2309e (t := 172) rfl ?_
              exact wk_ireturn xd_178d23c8 xr_8bb113d5 wk_z1 ⟨_, _, rfl, hGA, hf15_, hRA, by decide, by decide⟩
        · refine aw_tsw xd_a182db99 hkw (by omega) (by omega) (t := 173) rfl rfl ?_
          refine wk_aload_n xd_004b616a rfl ?_
          refine wk_iload xd_a0c398ab rfl ?_
          refine wk_iconst xd_f8d9a3e9 ?_
          refine wk_iconst xd_eff1c729 ?_
          obtain ⟨xA, wA, hCA, hGA, hFA, hRA, hxA, hyA⟩ := jas_ok (w := wN) (a := f4) (b := (Int32.ofInt 0)) (c := (Int32.ofInt 0)) (fun h1 h2 => by have e9 : (f4).toInt = ((f4).toInt : Int) := rfl; have e8 : ((Int32.ofInt 0)).toInt = (0 : Int) := (show ((Int32.ofInt 0)).toInt = 0 from by decide); omega) hr8_ hGN
          refine wk_call (kd := 0) (i := 67) xd_2e74ebd2 rfl (wk_cal (as := [.inr (.inr (some 111)), .inl f4, .inl (Int32.ofInt 0), .inl (Int32.ofInt 0)]) (t := []) xl_d7306f85 rfl xn_2a723c9c xc_62d23603 rfl rfl xv_f554e49c rfl) (cm_C_mono (by omega) hCA) ?_
          have hf17_ : jSf w wA := fun k i x1 x2 => (hFA k i x1 x2).trans (hf7_ k i x1 x2)
          exact wk_ireturn xd_b009b96b xr_8bb113d5 (aw_bit (by omega) (by omega)) ⟨_, _, rfl, hGA, hf17_, hRA, by omega, by omega⟩
        · refine aw_tsw xd_a182db99 hkw (by omega) (by omega) (t := 173) rfl rfl ?_
          refine wk_aload_n xd_004b616a rfl ?_
          refine wk_iload xd_a0c398ab rfl ?_
          refine wk_iconst xd_f8d9a3e9 ?_
          refine wk_iconst xd_eff1c729 ?_
          obtain ⟨xA, wA, hCA, hGA, hFA, hRA, hxA, hyA⟩ := jas_ok (w := wN) (a := f4) (b := (Int32.ofInt 0)) (c := (Int32.ofInt 0)) (fun h1 h2 => by have e9 : (f4).toInt = ((f4).toInt : Int) := rfl; have e8 : ((Int32.ofInt 0)).toInt = (0 : Int) := (show ((Int32.ofInt 0)).toInt = 0 from by decide); omega) hr8_ hGN
          refine wk_call (kd := 0) (i := 67) xd_2e74ebd2 rfl (wk_cal (as := [.inr (.inr (some 111)), .inl f4, .inl (Int32.ofInt 0), .inl (Int32.ofInt 0)]) (t := []) xl_d7306f85 rfl xn_2a723c9c xc_62d23603 rfl rfl xv_f554e49c rfl) (cm_C_mono (by omega) hCA) ?_
          have hf18_ : jSf w wA := fun k i x1 x2 => (hFA k i x1 x2).trans (hf7_ k i x1 x2)
          exact wk_ireturn xd_b009b96b xr_8bb113d5 (aw_bit (by omega) (by omega)) ⟨_, _, rfl, hGA, hf18_, hRA, by omega, by omega⟩
        · refine aw_tsw xd_a182db99 hkw (by omega) (by omega) (t := 182) rfl rfl ?_
          refine wk_aload_n xd_782d8077 rfl ?_
          refine wk_iload xd_15be06b3 rfl ?_
          refine wk_iconst xd_b7a1d521 ?_
          refine wk_aload_n xd_45110854 rfl ?_
          refine wk_aload_n xd_99c29850 rfl ?_
          refine wk_iconst xd_456b04e1 ?_
          obtain ⟨xT, wT, hCT, hGT, hFT, hxT⟩ := xs_188_2ede1899 (w := wN) (a2 := (Int32.ofInt 0)) (by have e9 : ((Int32.ofInt 0)).toInt = (0 : Int) := (show ((Int32.ofInt 0)).toInt = 0 from by decide); exact ⟨by omega, by omega⟩) hGN
          refine wk_call (kd := 0) (i := 77) xd_86c007c0 rfl (wk_cal (as := [.inr (.inr (some 2)), .inr (.inr (some 4)), .inl (Int32.ofInt 0)]) (t := [.inl (Int32.ofInt 0), .inl f4, .inr (.inr (some 111))]) xl_b17f1c45 rfl xn_725a18eb xc_be714b02 rfl rfl xv_0f9d2d2e rfl) (cm_C_mono (by omega) hCT) ?_
          have hf19_ : jSf w wT := fun k i x1 x2 => ((hFT k i (by omega)).1).trans (hf7_ k i x1 x2)
          have hr20_ : jR 111 wT := jR_fr (w := wN) (fun k i k1 k2 => (hFT k i (by omega)).1) hr8_
          obtain ⟨xA, wA, hCA, hGA, hFA, hRA, hxA, hyA⟩ := jas_ok (w := wT) (a := f4) (b := (Int32.ofInt 0)) (c := xT) (fun h1 h2 => by have e9 : (f4).toInt = ((f4).toInt : Int) := rfl; have e8 : (xT).toInt = ((xT).toInt : Int) := rfl; omega) hr20_ hGT
          refine wk_call (kd := 0) (i := 67) xd_3fac07ad rfl (wk_cal (as := [.inr (.inr (some 111)), .inl f4, .inl (Int32.ofInt 0), .inl xT]) (t := []) xl_d7306f85 rfl xn_2a723c9c xc_62d23603 rfl rfl xv_f554e49c rfl) (cm_C_mono (by omega) hCA) ?_
          have hf21_ : jSf w wA := fun k i x1 x2 => (hFA k i x1 x2).trans (hf19_ k i x1 x2)
          exact wk_ireturn xd_b5d8d910 xr_8bb113d5 (aw_bit (by omega) (by omega)) ⟨_, _, rfl, hGA, hf21_, hRA, by omega, by omega⟩
        · refine aw_tsw xd_a182db99 hkw (by omega) (by omega) (t := 196) rfl rfl ?_
          refine wk_aload_n xd_f95444c3 rfl ?_
          refine wk_iload xd_106f66c8 rfl ?_
          refine wk_iconst xd_c9308af5 ?_
          refine wk_aload_n xd_4f3bf0c3 rfl ?_
          refine wk_aload_n xd_93e860c7 rfl ?_
          refine wk_iconst xd_f01f520f ?_
          obtain ⟨xT, wT, hCT, hGT, hFT, hxT⟩ := xs_188_f939e912 (w := wN) (a2 := (Int32.ofInt 2)) (by have e9 : ((Int32.ofInt 2)).toInt = (2 : Int) := (show ((Int32.ofInt 2)).toInt = 2 from by decide); exact ⟨by omega, by omega⟩) hGN
          refine wk_call (kd := 0) (i := 77) xd_785791e6 rfl (wk_cal (as := [.inr (.inr (some 2)), .inr (.inr (some 4)), .inl (Int32.ofInt 2)]) (t := [.inl (Int32.ofInt 0), .inl f4, .inr (.inr (some 111))]) xl_b17f1c45 rfl xn_725a18eb xc_be714b02 rfl rfl xv_0f9d2d2e rfl) (cm_C_mono (by omega) hCT) ?_
          have hf22_ : jSf w wT := fun k i x1 x2 => ((hFT k i (by omega)).1).trans (hf7_ k i x1 x2)
          have hr23_ : jR 111 wT := jR_fr (w := wN) (fun k i k1 k2 => (hFT k i (by omega)).1) hr8_
          obtain ⟨xA, wA, hCA, hGA, hFA, hRA, hxA, hyA⟩ := jas_ok (w := wT) (a := f4) (b := (Int32.ofInt 0)) (c := xT) (fun h1 h2 => by have e9 : (f4).toInt = ((f4).toInt : Int) := rfl; have e8 : (xT).toInt = ((xT).toInt : Int) := rfl; omega) hr23_ hGT
          refine wk_call (kd := 0) (i := 67) xd_7ee82d6b rfl (wk_cal (as := [.inr (.inr (some 111)), .inl f4, .inl (Int32.ofInt 0), .inl xT]) (t := []) xl_d7306f85 rfl xn_2a723c9c xc_62d23603 rfl rfl xv_f554e49c rfl) (cm_C_mono (by omega) hCA) ?_
          have hf24_ : jSf w wA := fun k i x1 x2 => (hFA k i x1 x2).trans (hf22_ k i x1 x2)
          exact wk_ireturn xd_5a5daf20 xr_8bb113d5 (aw_bit (by omega) (by omega)) ⟨_, _, rfl, hGA, hf24_, hRA, by omega, by omega⟩
      · have h76_8 := aw_eq_f (a := ((f5).toInt : Int)) (b := (0 : Int)) rfl hb_z h76_8
        refine wk_aload_n xd_d4a3e340 rfl ?_
        refine wk_aload_n xd_911c68cb rfl ?_
        refine wk_aload_n xd_4dcff8cf rfl ?_
        refine wk_iload_n xd_5c493b2f rfl ?_
        refine wk_iconst xd_3c9181f2 ?_
        refine aw_iadd (a := ((-1) * (d : Int) + 8 : Int)) (b := (1 : Int)) (e := ((-1) * (d : Int) + 9 : Int)) xd_93cddfda hq (show ((Int32.ofInt 1)).toInt = 1 from by decide) (by omega) (by omega) (by omega) (fun v25_ p25_ => ?_)
        obtain ⟨xC, wC, hCC, hGC, hFC, hRC, hxC, hyC⟩ := hc wN v25_ (p25_.trans (by omega)) hr8_ hGN
        refine wk_call (kd := 0) (i := 40) xd_b211929f rfl (wk_cal (as := [.inr (.inr (some 111)), .inr (.inr (some 2)), .inr (.inr (some 4)), .inl v25_]) (t := []) xl_1f3fc70f rfl xn_2bf5d959 xc_be4385c8 rfl rfl xv_fa3436ae rfl) (cm_C_mono (by omega) hCC) ?_
        have hf26_ : jSf w wC := fun k i x1 x2 => (hFC k i x1 x2).trans (hf7_ k i x1 x2)
        refine wk_if xd_d37798bc (t := 104) rfl (fun h88_26 => ?_) (fun h88_26 => ?_)
        · have h88_26 := aw_eq_t (a := ((xC).toInt : Int)) (b := (0 : Int)) rfl hb_z h88_26
          refine wk_iconst xd_a030f2c7 ?_
          exact wk_ireturn xd_1bb39bd0 xr_8bb113d5 wk_z0 ⟨_, _, rfl, hGC, hf26_, hRC, by decide, by decide⟩
        · have h88_26 := aw_eq_f (a := ((xC).toInt : Int)) (b := (0 : Int)) rfl hb_z h88_26
          refine wk_aload_n xd_8b4ae738 rfl ?_
          refine wk_bipush xd_2b7abcf2 ?_
          obtain ⟨xc28_, wc28_, hCc28_, hGc28_, hFc28_, hxc28_⟩ := xs_190_85f3dad8 (w := wC) (a1 := ((Int8.ofInt 41).toInt32)) (by have e9 : (((Int8.ofInt 41).toInt32)).toInt = (41 : Int) := (show (((Int8.ofInt 41).toInt32)).toInt = 41 from by decide); exact ⟨by omega, by omega⟩) hGC
          refine wk_call (kd := 0) (i := 74) xd_f3824d28 rfl (wk_cal (as := [.inr (.inr (some 2)), .inl ((Int8.ofInt 41).toInt32)]) (t := []) xl_ca4c37d6 rfl xn_fe71b019 xc_c4c1f567 rfl rfl xv_89786e0c rfl) (cm_C_mono (by omega) hCc28_) ?_
          have hf29_ : jSf w wc28_ := fun k i x1 x2 => ((hFc28_ k i (by omega)).1).trans (hf26_ k i x1 x2)
          have hr30_ : jR 111 wc28_ := jR_fr (w := wC) (fun k i k1 k2 => (hFc28_ k i (by omega)).1) hRC
          refine wk_if xd_68137964 (t := 104) rfl (fun h97_30 => ?_) (fun h97_30 => ?_)
          · have h97_30 := aw_eq_t (a := ((xc28_).toInt : Int)) (b := (0 : Int)) rfl hb_z h97_30
            refine wk_iconst xd_a030f2c7 ?_
            exact wk_ireturn xd_1bb39bd0 xr_8bb113d5 wk_z0 ⟨_, _, rfl, hGc28_, hf29_, hr30_, by decide, by decide⟩
          · have h97_30 := aw_eq_f (a := ((xc28_).toInt : Int)) (b := (0 : Int)) rfl hb_z h97_30
            refine wk_iconst xd_c1f14877 ?_
            refine wk_goto xd_a443d8ac (t := 105) rfl ?_
            exact wk_ireturn xd_1bb39bd0 xr_8bb113d5 wk_z1 ⟨_, _, rfl, hGc28_, hf29_, hr30_, by decide, by decide⟩
    · have h51_2 := aw_le_f (a := ((-1) * (d : Int) + 8 : Int)) (b := (8 : Int)) hq (show (((Int8.ofInt 8).toInt32)).toInt = 8 from by decide) h51_2
      refine wk_aload_n xd_ab6e0e9e rfl ?_
      refine wk_iconst xd_1d165c63 ?_
      obtain ⟨xr, wr, hCr, hGr, hFr, hr0, -⟩ := jrf_ok (w := w) (a := (Int32.ofInt 4)) (by decide) hG
      refine wk_call (kd := 0) (i := 63) xd_be9f6141 rfl (wk_cal (as := [.inr (.inr (some 2)), .inl (Int32.ofInt 4)]) (t := []) xl_8c0f12fb rfl xn_b5464d7d xc_49a83f99 rfl rfl xv_780065b9 rfl) (cm_C_mono (by omega) hCr) ?_
      have hf32_ : jSf w wr := fun k i x1 x2 => (hFr k i (by omega)).trans (hF0 k i x1 x2)
      have hRr : jR 111 wr := jR_fr (w := w) (fun k i k1 k2 => hFr k i (by omega)) hR
      exact wk_ireturn xd_a75c3a24 xr_8bb113d5 (aw_bit (by omega) (by omega)) ⟨_, _, rfl, hGr, hf32_, hRr, by omega, by omega⟩
theorem jro_s (d : Nat) (hc : jSx (5 + 2 * d) 68 (9 - (d : Int))) (ho : jSx (4 + 2 * d) 69 (9 - (d : Int))) (hd : d ≤ 8) : jSx (6 + 2 * d) 69 (8 - (d : Int)) := by
  intro w q hq hR hG
  have hq : q.toInt = ((-1) * (d : Int) + 8 : Int) := hq.trans (by omega)
  have h : ∃ o, cm_C ((5 + 2 * d) + 1) 69 [.inr (.inr (some 111)), .inr (.inr (some 2)), .inr (.inr (some 4)), .inl q] w o ∧ (fun o : cm_O => ∃ x w', o = (some (.inl x), w') ∧ sv_w sg w' ∧ jSf w w' ∧ jR 111 w' ∧ 0 ≤ x.toInt ∧ x.toInt ≤ 1) o := by
    refine wk_entry (by rw [xm_9986a20b]; exact Nat.le_of_ble_eq_true rfl) ?_
    rw [show cm_ent 69 [.inr (.inr (some 111)), .inr (.inr (some 2)), .inr (.inr (some 4)), .inl q] = [some (.inr (.inr (some 111))), some (.inr (.inr (some 2))), some (.inr (.inr (some 4))), some (.inl q), none, none] from by unfold cm_ent; rw [xm_9986a20b]; rfl]
    refine wk_aload_n xd_069516b1 rfl ?_
    refine wk_getI xf_a4947e08 xd_5d0d08c5 ?_
    refine wk_istore xd_8ae2ac79 (by rw [xm_9986a20b]; rfl) rfl ?_
    refine wk_aload_n xd_eb5f64cb rfl ?_
    refine wk_bipush xd_9b99c558 ?_
    obtain ⟨xc33_, hCc33_, hxc33_⟩ := xs_60_114ee434 (w := w) (a1 := ((Int8.ofInt 40).toInt32)) (by have e9 : (((Int8.ofInt 40).toInt32)).toInt = (40 : Int) := (show (((Int8.ofInt 40).toInt32)).toInt = 40 from by decide); exact ⟨by omega, by omega⟩) hG
    refine wk_call (kd := 0) (i := 71) xd_2541b38a rfl (wk_cal (as := [.inr (.inr (some 2)), .inl ((Int8.ofInt 40).toInt32)]) (t := []) xl_bb2f47fd rfl xn_f2e637ad xc_3770e809 rfl rfl xv_6b285cca rfl) (cm_C_mono (by omega) hCc33_) ?_
    refine wk_istore xd_051e84b0 (by rw [xm_9986a20b]; rfl) rfl ?_
    refine wk_iload xd_2f3fb062 rfl ?_
    refine wk_if xd_95665ad6 (t := 39) rfl (fun h16_33 => ?_) (fun h16_33 => ?_)
    · have h16_33 := aw_ne_t (a := ((xc33_).toInt : Int)) (b := (0 : Int)) rfl hb_z h16_33
      exact jro_s_39 d hc ho q (w.1 2 8) xc33_ hq hd ⟨by omega, by omega⟩ hR hG
    · have h16_33 := aw_ne_f (a := ((xc33_).toInt : Int)) (b := (0 : Int)) rfl hb_z h16_33
      refine wk_iload xd_ba8e1781 rfl ?_
      refine wk_bipush xd_fd81d28a ?_
      refine wk_icmp xd_7f1574a0 (t := 33) rfl (fun h23_34 => ?_) (fun h23_34 => ?_)
      · have h23_34 := aw_lt_t (a := ((w.1 2 8).toInt : Int)) (b := (13 : Int)) rfl (show (((Int8.ofInt 13).toInt32)).toInt = 13 from by decide) h23_34
        refine wk_aload_n xd_6deac460 rfl ?_
        refine wk_iconst xd_2f14c5a9 ?_
        obtain ⟨xr, wr, hCr, hGr, hFr, hr0, -⟩ := jrf_ok (w := w) (a := (Int32.ofInt 1)) (by decide) hG
        refine wk_call (kd := 0) (i := 63) xd_dc6e36bf rfl (wk_cal (as := [.inr (.inr (some 2)), .inl (Int32.ofInt 1)]) (t := []) xl_8c0f12fb rfl xn_b5464d7d xc_49a83f99 rfl rfl xv_780065b9 rfl) (cm_C_mono (by omega) hCr) ?_
        have hf36_ : jSf w wr := fun k i x1 x2 => (hFr k i (by omega)).trans (jSf_rf k i x1 x2)
        have hRr : jR 111 wr := jR_fr (w := w) (fun k i k1 k2 => hFr k i (by omega)) hR
        exact wk_ireturn xd_4a77e33a xr_8bb113d5 (aw_bit (by omega) (by omega)) ⟨_, _, rfl, hGr, hf36_, hRr, by omega, by omega⟩
      · have h23_34 := aw_lt_f (a := ((w.1 2 8).toInt : Int)) (b := (13 : Int)) rfl (show (((Int8.ofInt 13).toInt32)).toInt = 13 from by decide) h23_34
        refine wk_iload xd_cfe335ef rfl ?_
        refine wk_bipush xd_9a1f5ab6 ?_
        refine wk_icmp xd_bcb3ce8d (t := 39) rfl (fun h30_36 => ?_) (fun h30_36 => ?_)
        · have h30_36 := aw_le_t (a := ((w.1 2 8).toInt : Int)) (b := (21 : Int)) rfl (show (((Int8.ofInt 21).toInt32)).toInt = 21 from by decide) h30_36
          exact jro_s_39 d hc ho q (w.1 2 8) xc33_ hq hd ⟨by omega, by omega⟩ hR hG
        · have h30_36 := aw_le_f (a := ((w.1 2 8).toInt : Int)) (b := (21 : Int)) rfl (show (((Int8.ofInt 21).toInt32)).toInt = 21 from by decide) h30_36
          refine wk_aload_n xd_6deac460 rfl ?_
          refine wk_iconst xd_2f14c5a9 ?_
          obtain ⟨xr, wr, hCr, hGr, hFr, hr0, -⟩ := jrf_ok (w := w) (a := (Int32.ofInt 1)) (by decide) hG
          refine wk_call (kd := 0) (i := 63) xd_dc6e36bf rfl (wk_cal (as := [.inr (.inr (some 2)), .inl (Int32.ofInt 1)]) (t := []) xl_8c0f12fb rfl xn_b5464d7d xc_49a83f99 rfl rfl xv_780065b9 rfl) (cm_C_mono (by omega) hCr) ?_
          have hf38_ : jSf w wr := fun k i x1 x2 => (hFr k i (by omega)).trans (jSf_rf k i x1 x2)
          have hRr : jR 111 wr := jR_fr (w := w) (fun k i k1 k2 => hFr k i (by omega)) hR
          exact wk_ireturn xd_4a77e33a xr_8bb113d5 (aw_bit (by omega) (by omega)) ⟨_, _, rfl, hGr, hf38_, hRr, by omega, by omega⟩
  obtain ⟨o, hC, x, w', rfl, a⟩ := h
  exact ⟨x, w', cm_C_mono (by omega) hC, a⟩
theorem jrc_l (m : Nat) (dv : Int) (ho : jSx (4 + m) 69 dv) (w1 : cm_W) (q : Int32) (hq : q.toInt = dv) (Q : cm_O → Prop) (hk : ∀ x w, jSf w1 w → jR 111 w → sv_w sg w → 0 ≤ x.toInt → x.toInt ≤ 1 → Q (some (.inl x), w)) : ∀ (n i : Nat) (o1 o2 z : Int32) (w : cm_W), n + i = 21 → z.toInt = (i : Int) → jSf w1 w → jR 111 w → sv_w sg w → cm_X (cm_C (4 + m)) 68 9 [some (.inr (.inr (some 111))), some (.inr (.inr (some 2))), some (.inr (.inr (some 4))), some (.inl q), some (.inl o1), some (.inl o2), some (.inl z)] [] w Q := by
  intro n
  induction n with
  | zero =>
    intro i o1 o2 z w hi hz hF hR hG
    refine wk_iload xd_965c75b9 rfl ?_
    refine wk_bipush xd_0a27689d ?_
    refine wk_icmp xd_8a4bc166 (t := 87) rfl (fun h13_0 => ?_) (fun h13_0 => ?_)
    · have h13_0 := aw_gt_t (a := ((i : Int) : Int)) (b := (20 : Int)) hz (show (((Int8.ofInt 20).toInt32)).toInt = 20 from by decide) h13_0
      refine wk_aload_n xd_8929eb24 rfl ?_
      refine wk_iconst xd_93572355 ?_
      obtain ⟨xr, wr, hCr, hGr, hFr, hr0, -⟩ := jrf_ok (w := w) (a := (Int32.ofInt 4)) (by decide) hG
      refine wk_call (kd := 0) (i := 63) xd_550e8a53 rfl (wk_cal (as := [.inr (.inr (some 2)), .inl (Int32.ofInt 4)]) (t := []) xl_7dd51751 rfl xn_b5464d7d xc_49a83f99 rfl rfl xv_780065b9 rfl) (cm_C_mono (by omega) hCr) ?_
      have hf2_ : jSf w1 wr := fun k i x1 x2 => (hFr k i (by omega)).trans (hF k i x1 x2)
      have hRr : jR 111 wr := jR_fr (w := w) (fun k i k1 k2 => hFr k i (by omega)) hR
      exact wk_ireturn xd_b9d994bf xr_0c17d896 (aw_bit (by omega) (by omega)) (hk _ _ hf2_ hRr hGr (by omega) (by omega))
    · have h13_0 := aw_gt_f (a := ((i : Int) : Int)) (b := (20 : Int)) hz (show (((Int8.ofInt 20).toInt32)).toInt = 20 from by decide) h13_0
      exfalso
      omega
  | succ n ih =>
    intro i o1 o2 z w hi hz hF hR hG
    refine wk_iload xd_965c75b9 rfl ?_
    refine wk_bipush xd_0a27689d ?_
    refine wk_icmp xd_8a4bc166 (t := 87) rfl (fun h13_2 => ?_) (fun h13_2 => ?_)
    · have h13_2 := aw_gt_t (a := ((i : Int) : Int)) (b := (20 : Int)) hz (show (((Int8.ofInt 20).toInt32)).toInt = 20 from by decide) h13_2
      exfalso
      omega
    · have h13_2 := aw_gt_f (a := ((i : Int) : Int)) (b := (20 : Int)) hz (show (((Int8.ofInt 20).toInt32)).toInt = 20 from by decide) h13_2
      refine wk_aload_n xd_7c1271d9 rfl ?_
      refine wk_aload_n xd_da01b2bd rfl ?_
      refine wk_aload_n xd_eba113e5 rfl ?_
      refine wk_iload_n xd_17b103ec rfl ?_
      obtain ⟨xO, wO, hCO, hGO, hFO, hRO, hxO, hyO⟩ := ho w q hq hR hG
      refine wk_call (kd := 0) (i := 50) xd_fadce80e rfl (wk_cal (as := [.inr (.inr (some 111)), .inr (.inr (some 2)), .inr (.inr (some 4)), .inl q]) (t := []) xl_47753746 rfl xn_1695f0e9 xc_940bc8b8 rfl rfl xv_ccc6a65d rfl) (cm_C_mono (by omega) hCO) ?_
      have hf4_ : jSf w1 wO := fun k i x1 x2 => (hFO k i x1 x2).trans (hF k i x1 x2)
      refine wk_if xd_bbca0010 (t := 28) rfl (fun h23_4 => ?_) (fun h23_4 => ?_)
      · have h23_4 := aw_ne_t (a := ((xO).toInt : Int)) (b := (0 : Int)) rfl hb_z h23_4
        refine wk_aload_n xd_c97fe9ad rfl ?_
        refine wk_bipush xd_aed4a35d ?_
        refine wk_iload xd_29c76ec9 rfl ?_
        obtain ⟨xJ, wJ, hCJ, hGJ, hFJ, hRJ⟩ := jjl_ok (w := wO) (j := ((Int8.ofInt 12).toInt32)) (q := o2) (by decide) hRO hGO
        refine wk_call (kd := 0) (i := 53) xd_f73a5f17 rfl (wk_cal (as := [.inr (.inr (some 111)), .inl ((Int8.ofInt 12).toInt32), .inl o2]) (t := []) xl_c1c38a38 rfl xn_7cf6264f xc_311df234 rfl rfl xv_186c37a3 rfl) (cm_C_mono (by omega) hCJ) ?_
        have hf6_ : jSf w1 wJ := fun k i x1 x2 => (hFJ k i x1 x2).trans (hf4_ k i x1 x2)
        refine wk_istore xd_533462ce (by rw [xm_d3e1bb2d]; rfl) rfl ?_
        refine wk_aload_n xd_753aa53a rfl ?_
        refine wk_getI xf_2332b54b xd_d712d8dc ?_
        refine wk_bipush xd_68b58b16 ?_
        refine wk_icmp xd_9539b937 (t := 53) rfl (fun h44_6 => ?_) (fun h44_6 => ?_)
        · have h44_6 := aw_ne_t (a := ((wJ.1 2 8).toInt : Int)) (b := (12 : Int)) rfl (show (((Int8.ofInt 12).toInt32)).toInt = 12 from by decide) h44_6
          refine wk_aload_n xd_8e3ba4c1 rfl ?_
          refine wk_bipush xd_43fae69b ?_
          refine wk_iload xd_0fb19ba1 rfl ?_
          obtain ⟨xK, wK, hCK, hGK, hFK, hRK⟩ := jjl_ok (w := wJ) (j := ((Int8.ofInt 11).toInt32)) (q := o1) (by decide) hRJ hGJ
          refine wk_call (kd := 0) (i := 53) xd_adbd16e8 rfl (wk_cal (as := [.inr (.inr (some 111)), .inl ((Int8.ofInt 11).toInt32), .inl o1]) (t := []) xl_c1c38a38 rfl xn_7cf6264f xc_311df234 rfl rfl xv_186c37a3 rfl) (cm_C_mono (by omega) hCK) ?_
          have hf8_ : jSf w1 wK := fun k i x1 x2 => (hFK k i x1 x2).trans (hf6_ k i x1 x2)
          refine wk_istore xd_90a23e79 (by rw [xm_d3e1bb2d]; rfl) rfl ?_
          refine wk_aload_n xd_eb452459 rfl ?_
          refine wk_getI xf_2332b54b xd_68a6a1d7 ?_
          refine wk_bipush xd_6d01768e ?_
          refine wk_icmp xd_5016ac09 (t := 74) rfl (fun h69_8 => ?_) (fun h69_8 => ?_)
          · have h69_8 := aw_eq_t (a := ((wK.1 2 8).toInt : Int)) (b := (11 : Int)) rfl (show (((Int8.ofInt 11).toInt32)).toInt = 11 from by decide) h69_8
            refine wk_iconst xd_c855c2ad ?_
            refine wk_istore xd_577047ad (by rw [xm_d3e1bb2d]; rfl) rfl ?_
            refine wk_aload_n xd_6a3ce0ed rfl ?_
            obtain ⟨wN, hCN, hGN, hFN, hxN⟩ := xs_61_078b38e8 (w := wK) hGK
            refine wk_call (kd := 0) (i := 60) xd_7146cf34 rfl (wk_cal (as := [.inr (.inr (some 2))]) (t := []) xl_877ee59a rfl xn_568f4fa7 xc_1d38a579 rfl rfl xv_65cfb41b rfl) (cm_C_mono (by omega) hCN) ?_
            have hf10_ : jSf w1 wN := fun k i x1 x2 => ((hFN k i (by omega)).1).trans (hf8_ k i x1 x2)
            have hr11_ : jR 111 wN := jR_fr (w := wK) (fun k i k1 k2 => (hFN k i (by omega)).1) hRK
            refine aw_iinc (a := ((i : Int) : Int)) (b := (1 : Int)) (e := ((i : Int) + 1 : Int)) xd_33f5c8ff (by rw [xm_d3e1bb2d]; rfl) rfl rfl hz (show ((Int32.ofInt 1)).toInt = 1 from by decide) (by omega) (by omega) (by omega) (fun v12_ p12_ => ?_)
            refine wk_goto xd_2c4679b5 (t := 9) rfl ?_
            exact ih (i + 1) _ _ _ wN (by omega) (by rw [p12_]; omega) hf10_ hr11_ hGN
          · have h69_8 := aw_eq_f (a := ((wK.1 2 8).toInt : Int)) (b := (11 : Int)) rfl (show (((Int8.ofInt 11).toInt32)).toInt = 11 from by decide) h69_8
            refine wk_iconst xd_baa4982d ?_
            exact wk_ireturn xd_edb16ba1 xr_0c17d896 wk_z1 (hk _ _ hf8_ hRK hGK (by decide) (by decide))
        · have h44_6 := aw_ne_f (a := ((wJ.1 2 8).toInt : Int)) (b := (12 : Int)) rfl (show (((Int8.ofInt 12).toInt32)).toInt = 12 from by decide) h44_6
          refine wk_iconst xd_87c856d0 ?_
          refine wk_istore xd_ee3f86e0 (by rw [xm_d3e1bb2d]; rfl) rfl ?_
          refine wk_goto xd_db337997 (t := 77) rfl ?_
          refine wk_aload_n xd_6a3ce0ed rfl ?_
          obtain ⟨wN, hCN, hGN, hFN, hxN⟩ := xs_61_078b38e8 (w := wJ) hGJ
          refine wk_call (kd := 0) (i := 60) xd_7146cf34 rfl (wk_cal (as := [.inr (.inr (some 2))]) (t := []) xl_877ee59a rfl xn_568f4fa7 xc_1d38a579 rfl rfl xv_65cfb41b rfl) (cm_C_mono (by omega) hCN) ?_
          have hf13_ : jSf w1 wN := fun k i x1 x2 => ((hFN k i (by omega)).1).trans (hf6_ k i x1 x2)
          have hr14_ : jR 111 wN := jR_fr (w := wJ) (fun k i k1 k2 => (hFN k i (by omega)).1) hRJ
          refine aw_iinc (a := ((i : Int) : Int)) (b := (1 : Int)) (e := ((i : Int) + 1 : Int)) xd_33f5c8ff (by rw [xm_d3e1bb2d]; rfl) rfl rfl hz (show ((Int32.ofInt 1)).toInt = 1 from by decide) (by omega) (by omega) (by omega) (fun v15_ p15_ => ?_)
          refine wk_goto xd_2c4679b5 (t := 9) rfl ?_
          exact ih (i + 1) _ _ _ wN (by omega) (by rw [p15_]; omega) hf13_ hr14_ hGN
      · have h23_4 := aw_ne_f (a := ((xO).toInt : Int)) (b := (0 : Int)) rfl hb_z h23_4
        refine wk_iconst xd_404a69da ?_
        exact wk_ireturn xd_b4c198da xr_0c17d896 wk_z0 (hk _ _ hf4_ hRO hGO (by decide) (by decide))
theorem jrc_s (m : Nat) (dv : Int) (ho : jSx (4 + m) 69 dv) : jSx (5 + m) 68 dv := by
  intro w q hq hR hG
  have h : ∃ o, cm_C ((4 + m) + 1) 68 [.inr (.inr (some 111)), .inr (.inr (some 2)), .inr (.inr (some 4)), .inl q] w o ∧ (fun o : cm_O => ∃ x w', o = (some (.inl x), w') ∧ sv_w sg w' ∧ jSf w w' ∧ jR 111 w' ∧ 0 ≤ x.toInt ∧ x.toInt ≤ 1) o := by
    refine wk_entry (by rw [xm_d3e1bb2d]; exact Nat.le_of_ble_eq_true rfl) ?_
    rw [show cm_ent 68 [.inr (.inr (some 111)), .inr (.inr (some 2)), .inr (.inr (some 4)), .inl q] = [some (.inr (.inr (some 111))), some (.inr (.inr (some 2))), some (.inr (.inr (some 4))), some (.inl q), none, none, none] from by unfold cm_ent; rw [xm_d3e1bb2d]; rfl]
    refine wk_iconst xd_c6a56707 ?_
    refine wk_istore xd_64e0cbb7 (by rw [xm_d3e1bb2d]; rfl) rfl ?_
    refine wk_iconst xd_ffddca47 ?_
    refine wk_istore xd_120915c7 (by rw [xm_d3e1bb2d]; rfl) rfl ?_
    refine wk_iconst xd_b4543d87 ?_
    refine wk_istore xd_6cd1c257 (by rw [xm_d3e1bb2d]; rfl) rfl ?_
    exact jrc_l m dv ho w q hq _ (fun x w2 a b c d e => ⟨x, w2, rfl, c, a, b, d, e⟩) 21 0 _ _ _ w (by omega) (by decide) jSf_rf hR hG
  obtain ⟨o, hC, x, w', rfl, a⟩ := h
  exact ⟨x, w', cm_C_mono (by omega) hC, a⟩
theorem jrx : ∀ d : Nat, d ≤ 8 → jSx (4 + 2 * d) 69 (9 - (d : Int))
  | 0, _ => jro_0
  | d + 1, h => by
    have e := jrx d (by omega)
    have r := jro_s d (jrc_s (2 * d) _ e) e (by omega)
    rw [show (9 - ((d + 1 : Nat) : Int)) = 8 - (d : Int) from by omega, show 4 + 2 * (d + 1) = 6 + 2 * d from by omega]
    exact r
theorem jrc_1 : jSx 21 68 1 := jrc_s 16 1 (jrx 8 (by omega))
theorem jsa_ok {w : cm_W} (hG : sv_w sg w) : ∃ x w', cm_C 22 67 [.inr (.inr (some 111)), .inr (.inr (some 2)), .inr (.inr (some 4))] w (some (.inl x), w') ∧ sv_w sg w' ∧ jSf w w' ∧ jR 111 w' ∧ 0 ≤ x.toInt ∧ x.toInt ≤ 1 := by
  have h : ∃ o, cm_C (21 + 1) 67 [.inr (.inr (some 111)), .inr (.inr (some 2)), .inr (.inr (some 4))] w o ∧ (fun o : cm_O => ∃ x w', o = (some (.inl x), w') ∧ sv_w sg w' ∧ jSf w w' ∧ jR 111 w' ∧ 0 ≤ x.toInt ∧ x.toInt ≤ 1) o := by
    refine wk_entry (by rw [xm_56dce8e5]; exact Nat.le_of_ble_eq_true rfl) ?_
    rw [show cm_ent 67 [.inr (.inr (some 111)), .inr (.inr (some 2)), .inr (.inr (some 4))] = [some (.inr (.inr (some 111))), some (.inr (.inr (some 2))), some (.inr (.inr (some 4)))] from by unfold cm_ent; rw [xm_56dce8e5]; rfl]
    refine wk_aload_n xd_5102cf0c rfl ?_
    obtain ⟨w1, hC1, hG1, hF1, h11, -⟩ := jfg_111 (w := w) hG
    refine wk_call (kd := 0) (i := 37) xd_d32cf9ce rfl (wk_cal (as := [.inr (.inr (some 111))]) (t := []) xl_918b7a4b rfl xn_e4af93b7 xc_cac14729 rfl rfl xv_20fed55d rfl) (cm_C_mono (by omega) hC1) ?_
    have hf1 : jSf w w1 := fun k i x1 x2 => hF1 k i (by omega)
    have hR1 : jR 111 w1 := fun i hi h1 => absurd h1 (by rw [h11]; omega)
    refine wk_aload_n xd_515e6e9f rfl ?_
    refine wk_aload_n xd_f74dadfb rfl ?_
    refine wk_aload_n xd_c608ee16 rfl ?_
    refine wk_iconst xd_7c471fe8 ?_
    obtain ⟨xC, wC, hCC, hGC, hFC, hRC, hxC, hyC⟩ := jrc_1 w1 (Int32.ofInt 1) (by decide) hR1 hG1
    refine wk_call (kd := 0) (i := 40) xd_781fe86f rfl (wk_cal (as := [.inr (.inr (some 111)), .inr (.inr (some 2)), .inr (.inr (some 4)), .inl (Int32.ofInt 1)]) (t := []) xl_b564e464 rfl xn_2bf5d959 xc_be4385c8 rfl rfl xv_fa3436ae rfl) (cm_C_mono (by omega) hCC) ?_
    have hf1_ : jSf w wC := fun k i x1 x2 => (hFC k i x1 x2).trans (hf1 k i x1 x2)
    refine wk_if xd_58cc278c (t := 25) rfl (fun h11_1 => ?_) (fun h11_1 => ?_)
    · have h11_1 := aw_eq_t (a := ((xC).toInt : Int)) (b := (0 : Int)) rfl hb_z h11_1
      refine wk_iconst xd_f4d89200 ?_
      exact wk_ireturn xd_c940745b xr_ca95eb43 wk_z0 ⟨_, _, rfl, hGC, hf1_, hRC, by decide, by decide⟩
    · have h11_1 := aw_eq_f (a := ((xC).toInt : Int)) (b := (0 : Int)) rfl hb_z h11_1
      refine wk_aload_n xd_bcb31b8c rfl ?_
      obtain ⟨xc3_, wc3_, hCc3_, hGc3_, hFc3_, hxc3_⟩ := xs_59_4187aa83 (w := wC) hGC
      refine wk_call (kd := 0) (i := 44) xd_1a27f343 rfl (wk_cal (as := [.inr (.inr (some 2))]) (t := []) xl_ecc002f1 rfl xn_e06b76c8 xc_647a832b rfl rfl xv_dbeffa2c rfl) (cm_C_mono (by omega) hCc3_) ?_
      have hf4_ : jSf w wc3_ := fun k i x1 x2 => ((hFc3_ k i (by omega)).1).trans (hf1_ k i x1 x2)
      have hr5_ : jR 111 wc3_ := jR_fr (w := wC) (fun k i k1 k2 => (hFc3_ k i (by omega)).1) hRC
      refine wk_if xd_964fad45 (t := 25) rfl (fun h18_5 => ?_) (fun h18_5 => ?_)
      · have h18_5 := aw_eq_t (a := ((xc3_).toInt : Int)) (b := (0 : Int)) rfl hb_z h18_5
        refine wk_iconst xd_f4d89200 ?_
        exact wk_ireturn xd_c940745b xr_ca95eb43 wk_z0 ⟨_, _, rfl, hGc3_, hf4_, hr5_, by decide, by decide⟩
      · have h18_5 := aw_eq_f (a := ((xc3_).toInt : Int)) (b := (0 : Int)) rfl hb_z h18_5
        refine wk_iconst xd_951928b0 ?_
        refine wk_goto xd_5a29ae8a (t := 26) rfl ?_
        exact wk_ireturn xd_c940745b xr_ca95eb43 wk_z1 ⟨_, _, rfl, hGc3_, hf4_, hr5_, by decide, by decide⟩
  obtain ⟨o, hC, x, w', rfl, a⟩ := h
  exact ⟨x, w', hC, a⟩
/-- sentence of the class ends -/
theorem jc_sentence {w : cm_W} (hR1 : jR 106 w) (hG : sv_w sg w) : ∃ x w', cm_C 23 39 [.inr (.inr (some 0))] w (some (.inl x), w') ∧ sv_w sg w' ∧ jR 106 w' ∧ (∀ c i, c ≠ 0 → c ≠ 2 → ¬ (106 ≤ c ∧ c ≤ 115) → w'.1 c i = w.1 c i) ∧ (w'.1 0 1).toInt = 0 := by
  have h : ∃ o, cm_C (22 + 1) 39 [.inr (.inr (some 0))] w o ∧ (fun o : cm_O => ∃ x w', o = (some (.inl x), w') ∧ sv_w sg w' ∧ jR 106 w' ∧ (∀ c i, c ≠ 0 → c ≠ 2 → ¬ (106 ≤ c ∧ c ≤ 115) → w'.1 c i = w.1 c i) ∧ (w'.1 0 1).toInt = 0) o := by
    refine wk_entry (by rw [xm_ce26f7a1]; exact Nat.le_of_ble_eq_true rfl) ?_
    rw [show cm_ent 39 [.inr (.inr (some 0))] = [some (.inr (.inr (some 0))), none] from by unfold cm_ent; rw [xm_ce26f7a1]; rfl]
    refine wk_aload_n xd_34384f05 rfl ?_
    refine wk_sipush xd_9ae0cc05 ?_
    obtain ⟨wA, hCA, hGA, hFA, hA0⟩ := jot_200 (w := w) (show ((Int16.ofInt 200).toInt32).toInt = 200 from by decide) hG
    refine wk_call (kd := 0) (i := 117) xd_08c0def8 rfl (wk_cal (as := [.inr (.inr (some 0)), .inl ((Int16.ofInt 200).toInt32)]) (t := []) xl_3e47df0e rfl xn_e58bdcce xc_824ae56d rfl rfl xv_a03cc3f8 rfl) (cm_C_mono (by omega) hCA) ?_
    refine wk_aload_n xd_4281d7ab rfl ?_
    refine wk_getR xf_d94d3851 xd_58acb742 ?_
    refine wk_aload_n xd_6345fb5f rfl ?_
    refine wk_getR xf_7815df38 xd_6c9bd59c ?_
    refine wk_aload_n xd_63195acc rfl ?_
    refine wk_getR xf_462eed4f xd_e9222978 ?_
    obtain ⟨xB, wB, hCB, hGB, hFB, hRB, hxB, hyB⟩ := jsa_ok (w := wA) hGA
    refine wk_call (kd := 0) (i := 374) xd_6f553aa9 rfl (wk_cal (as := [.inr (.inr (some 111)), .inr (.inr (some 2)), .inr (.inr (some 4))]) (t := []) xl_31408c8b rfl xn_37c1db2b xc_e0890a59 rfl rfl xv_160c45ae rfl) (cm_C_mono (by omega) hCB) ?_
    refine wk_istore_n xd_0b553703 (by rw [xm_ce26f7a1]; rfl) rfl ?_
    refine wk_aload_n xd_d6cd819e rfl ?_
    refine wk_aload_n xd_a0741930 rfl ?_
    refine wk_getR xf_7815df38 xd_509cc4cc ?_
    refine wk_getI xf_3495a8ff xd_8f02df24 ?_
    refine wk_putI xf_3968b717 (fun ci => wk_fitI ci) xd_4ba66c3a ?_
    have hG1_ : sv_w sg (cm_u1 wB 0 3 (wB.1 2 11)) := sv_w_u1 hGB (by rw [xg_2addefec]; exact sv_in_top _)
    refine wk_iload_n xd_463286ca rfl ?_
    refine wk_if xd_235de001 (t := 48) rfl (fun h35_1 => ?_) (fun h35_1 => ?_)
    · have h35_1 := aw_ne_t (a := ((xB).toInt : Int)) (b := (0 : Int)) rfl hb_z h35_1
      refine wk_aload_n xd_10aca9d5 rfl ?_
      refine wk_getR xf_bfbdf7f5 xd_9891d939 ?_
      refine wk_aload_n xd_7ca65c3d rfl ?_
      refine wk_getR xf_d94d3851 xd_420d0140 ?_
      obtain ⟨wD, hCD, hGD, hFD, hRD⟩ := jcs_106_111 (w := (cm_u1 wB 0 3 (wB.1 2 11))) (jR_eq (w := wB) (hs_u1_ne (by omega)) (fun i _ => hs_u1_ne (by omega)) (fun i _ => hs_u1_ne (by omega)) hRB) hG1_
      refine wk_call (kd := 0) (i := 377) xd_06f786ec rfl (wk_cal (as := [.inr (.inr (some 106)), .inr (.inr (some 111))]) (t := []) xl_33c7b46d rfl xn_3a06b8dd xc_b41990b9 rfl rfl xv_c9773da4 rfl) (cm_C_mono (by omega) hCD) ?_
      refine wk_aload_n xd_0afa2626 rfl ?_
      refine wk_getR xf_bfbdf7f5 xd_045b91ef ?_
      refine wk_getI xf_1b42a55d xd_8ab9e0aa ?_
      refine wk_ireturn xd_1fb82803 xr_fc9e7a4e rfl ⟨_, _, rfl, hGD, hRD, fun c i c1 c2 c3 => by rw [hFD c i (by omega), hs_u1_ne (by omega), hFB c i (by omega) (by omega), hFA c i (by omega) (by omega)], ?_⟩
      rw [hFD 0 1 (by omega), hs_u1_ne (by omega), hFB 0 1 (by omega) (by omega)]
      exact hA0
    · have h35_1 := aw_ne_f (a := ((xB).toInt : Int)) (b := (0 : Int)) rfl hb_z h35_1
      refine wk_iconst xd_490ffb05 ?_
      refine wk_aload_n xd_bac77476 rfl ?_
      refine wk_getR xf_7815df38 xd_3174c388 ?_
      refine wk_getI xf_9a57ba18 xd_51d5afa6 ?_
      refine wk_isub xd_5a744600 ?_
      refine wk_ireturn xd_ae32621d xr_fc9e7a4e rfl ⟨_, _, rfl, hG1_, jR_eq (w := w) (s := 106) (by rw [hs_u1_ne (by omega), hFB 106 1 (by omega) (by omega), hFA 106 1 (by omega) (by omega)]) (fun i _ => (by rw [hs_u1_ne (by omega), hFB _ i (by omega) (by omega), hFA _ i (by omega) (by omega)])) (fun i _ => (by rw [hs_u1_ne (by omega), hFB _ i (by omega) (by omega), hFA _ i (by omega) (by omega)])) hR1, fun c i c1 c2 c3 => by rw [hs_u1_ne (by omega), hFB c i (by omega) (by omega), hFA c i (by omega) (by omega)], ?_⟩
      rw [hs_u1_ne (by omega), hFB 0 1 (by omega) (by omega)]
      exact hA0
  obtain ⟨o, hC, x, w', rfl, a⟩ := h
  exact ⟨x, w', hC, a⟩

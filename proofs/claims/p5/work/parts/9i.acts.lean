/-! ## by hand: acts of the class (wip/p2/gen9i.py) -/
set_option maxRecDepth 100000 in
theorem xd_6b772e5d : decode (ia_code 216) 0 = .ok (.aload_n 0, 1) := fdd_d (by decide +kernel)
set_option maxRecDepth 100000 in
theorem xd_97673e54 : decode (ia_code 216) 1 = .ok (.iload_n 1, 1) := fdd_d (by decide +kernel)
set_option maxRecDepth 100000 in
theorem xs_207_ec8c1eaf {a1 : Int32} {w : cm_W} (h1 : 0 ≤ a1.toInt ∧ a1.toInt ≤ 5) (hG : sv_w sg w) : ∃ x : Int32, cm_C 1 207 [.inr (.inr (some 33)), .inl a1] w (some (.inl x), w) ∧ ((x.toInt = 1) ∨ (x.toInt = 0)) := by
  obtain ⟨r, w', hC, hG', hF, q, hq, hr, hp, hs⟩ := wk_use (d := 1) sm_207_ec8c1eaf_ok (by decide) (as := [.inr (.inr (some 33)), .inl a1]) (w := w) ⟨rfl, hb_mk (lo := 2147483648) (hi := 2147483653) (by have := h1.1; omega) (by have := h1.2; omega), trivial⟩ (fun f hf => by
    cases hf) hG
  have ew : w' = w := Prod.ext (funext fun k => funext fun i => (hF k i (fun ⟨r, z, _⟩ => by cases z)).1) (funext fun k => funext fun i => (hF k i (fun ⟨r, z, _⟩ => by cases z)).2)
  subst ew
  simp only [sm_207_ec8c1eaf, List.mem_cons, List.not_mem_nil, or_false] at hq
  rcases hq with rfl | rfl
  · obtain ⟨x, rfl, hx⟩ := wk_int hr
    have hx := hb_in hx
    exact ⟨x, hC, Or.inl (by omega)⟩
  · obtain ⟨x, rfl, hx⟩ := wk_int hr
    have hx := hb_in hx
    exact ⟨x, hC, Or.inr ((by omega))⟩
set_option maxRecDepth 100000 in
theorem xl_d1b065b6 : ia_pl (ia_cls 216) 83 = some (1, 207, 0, 0, 913) := by decide +kernel
set_option maxRecDepth 100000 in
theorem xn_5ab6275c : ia_na 207 = 2 := by decide +kernel
set_option maxRecDepth 100000 in
theorem xc_707a1546 : ia_mc 207 = 0 ∧ ia_ms 207 = 0 := ⟨by decide +kernel, by decide +kernel⟩
set_option maxRecDepth 100000 in
theorem xv_3a33a60a : cm_rcv 207 [.inr (.inr (some 33))] = true := by decide +kernel
set_option maxRecDepth 100000 in
theorem xd_fed4d78b : decode (ia_code 216) 2 = .ok (.invokevirtual 83, 3) := fdd_d (by decide +kernel)
set_option maxRecDepth 100000 in
theorem xd_2062ee5f : decode (ia_code 216) 5 = .ok (.ifCond .eq 5, 3) := fdd_d (by decide +kernel)
set_option maxRecDepth 100000 in
theorem xd_9dd9872c : decode (ia_code 216) 10 = .ok (.aload_n 0, 1) := fdd_d (by decide +kernel)
set_option maxRecDepth 100000 in
theorem xd_2ad80aa0 : decode (ia_code 216) 11 = .ok (.getfield 21, 3) := fdd_d (by decide +kernel)
set_option maxRecDepth 100000 in
theorem xf_d6f8e53b : wk_gf 216 21 33 7 (37 + 3) = true := by decide +kernel
set_option maxRecDepth 100000 in
theorem xd_bd46a6b2 : decode (ia_code 216) 14 = .ok (.iload_n 2, 1) := fdd_d (by decide +kernel)
set_option maxRecDepth 100000 in
theorem xd_7df4f3ba : decode (ia_code 216) 15 = .ok (.iaload, 1) := fdd_d (by decide +kernel)
set_option maxRecDepth 100000 in
theorem xf_cb2da157 : wk_ar 37 50 4 = true := by decide +kernel
set_option maxRecDepth 100000 in
theorem xd_07562cf2 : decode (ia_code 216) 16 = .ok (.ifCond .ne 5, 3) := fdd_d (by decide +kernel)
set_option maxRecDepth 100000 in
theorem xd_5eb4c4d0 : decode (ia_code 216) 21 = .ok (.aload_n 0, 1) := fdd_d (by decide +kernel)
set_option maxRecDepth 100000 in
theorem xd_958ca450 : decode (ia_code 216) 22 = .ok (.getfield 9, 3) := fdd_d (by decide +kernel)
set_option maxRecDepth 100000 in
theorem xf_61572595 : wk_gf 216 9 33 4 (34 + 3) = true := by decide +kernel
set_option maxRecDepth 100000 in
theorem xd_398b9f9e : decode (ia_code 216) 25 = .ok (.iload_n 1, 1) := fdd_d (by decide +kernel)
set_option maxRecDepth 100000 in
theorem xd_a9433c93 : decode (ia_code 216) 26 = .ok (.iaload, 1) := fdd_d (by decide +kernel)
set_option maxRecDepth 100000 in
theorem xf_34c2cae4 : wk_ar 34 50 6 = true := by decide +kernel
set_option maxRecDepth 100000 in
theorem xd_291ff4c6 : decode (ia_code 216) 27 = .ok (.ifCond .ne 7, 3) := fdd_d (by decide +kernel)
set_option maxRecDepth 100000 in
theorem xd_42f6fd45 : decode (ia_code 216) 34 = .ok (.iconst 0, 1) := fdd_d (by decide +kernel)
set_option maxRecDepth 100000 in
theorem xd_65c60d19 : decode (ia_code 216) 35 = .ok (.ireturn, 1) := fdd_d (by decide +kernel)
set_option maxRecDepth 100000 in
theorem xr_477e1d12 : ia_ret 216 = some .int := by decide +kernel
set_option maxRecDepth 100000 in
theorem xd_59f71495 : decode (ia_code 216) 30 = .ok (.iconst 3, 1) := fdd_d (by decide +kernel)
set_option maxRecDepth 100000 in
theorem xd_60a9aca1 : decode (ia_code 216) 31 = .ok (.goto 4, 3) := fdd_d (by decide +kernel)
set_option maxRecDepth 100000 in
theorem xd_276aac0c : decode (ia_code 216) 19 = .ok (.iconst 2, 1) := fdd_d (by decide +kernel)
set_option maxRecDepth 100000 in
theorem xd_ffcdeefc : decode (ia_code 216) 20 = .ok (.ireturn, 1) := fdd_d (by decide +kernel)
set_option maxRecDepth 100000 in
theorem xd_606d98c9 : decode (ia_code 216) 8 = .ok (.iconst 1, 1) := fdd_d (by decide +kernel)
set_option maxRecDepth 100000 in
theorem xd_44095fca : decode (ia_code 216) 9 = .ok (.ireturn, 1) := fdd_d (by decide +kernel)
set_option maxRecDepth 100000 in
theorem xm_a7301f5b : ia_maxL 216 = 3 := by decide +kernel
set_option maxRecDepth 100000 in
theorem xd_41e3b883 : decode (ia_code 212) 0 = .ok (.aload_n 0, 1) := fdd_d (by decide +kernel)
set_option maxRecDepth 100000 in
theorem xd_b5215b81 : decode (ia_code 212) 1 = .ok (.getfield 21, 3) := fdd_d (by decide +kernel)
set_option maxRecDepth 100000 in
theorem xf_2d45afc0 : wk_gf 212 21 33 7 (37 + 3) = true := by decide +kernel
set_option maxRecDepth 100000 in
theorem xd_617c991d : decode (ia_code 212) 4 = .ok (.iload_n 2, 1) := fdd_d (by decide +kernel)
set_option maxRecDepth 100000 in
theorem xd_15576b40 : decode (ia_code 212) 5 = .ok (.dup2, 1) := fdd_d (by decide +kernel)
set_option maxRecDepth 100000 in
theorem xd_9e554541 : decode (ia_code 212) 6 = .ok (.iaload, 1) := fdd_d (by decide +kernel)
set_option maxRecDepth 100000 in
theorem xd_474aca72 : decode (ia_code 212) 7 = .ok (.iconst 1, 1) := fdd_d (by decide +kernel)
set_option maxRecDepth 100000 in
theorem xd_76f7da38 : decode (ia_code 212) 8 = .ok (.isub, 1) := fdd_d (by decide +kernel)
set_option maxRecDepth 100000 in
theorem xd_8a323214 : decode (ia_code 212) 9 = .ok (.iastore, 1) := fdd_d (by decide +kernel)
set_option maxRecDepth 100000 in
theorem xh_5d5540f8 : ∀ i, i < 4 → sv_g sg 37 i = sv_top := by decide +kernel
set_option maxRecDepth 100000 in
theorem xd_fc98ec69 : decode (ia_code 212) 10 = .ok (.aload_n 0, 1) := fdd_d (by decide +kernel)
set_option maxRecDepth 100000 in
theorem xd_f63278ae : decode (ia_code 212) 11 = .ok (.getfield 18, 3) := fdd_d (by decide +kernel)
set_option maxRecDepth 100000 in
theorem xf_affbc6fb : wk_gf 212 18 33 6 (36 + 3) = true := by decide +kernel
set_option maxRecDepth 100000 in
theorem xd_9ba7b727 : decode (ia_code 212) 14 = .ok (.iload_n 1, 1) := fdd_d (by decide +kernel)
set_option maxRecDepth 100000 in
theorem xd_c9660a9e : decode (ia_code 212) 15 = .ok (.dup2, 1) := fdd_d (by decide +kernel)
set_option maxRecDepth 100000 in
theorem xd_bb5b202f : decode (ia_code 212) 16 = .ok (.iaload, 1) := fdd_d (by decide +kernel)
set_option maxRecDepth 100000 in
theorem xf_549e7faf : wk_ar 36 50 6 = true := by decide +kernel
set_option maxRecDepth 100000 in
theorem xd_81ec3c82 : decode (ia_code 212) 17 = .ok (.iconst 1, 1) := fdd_d (by decide +kernel)
set_option maxRecDepth 100000 in
theorem xd_1d4d129f : decode (ia_code 212) 18 = .ok (.iadd, 1) := fdd_d (by decide +kernel)
set_option maxRecDepth 100000 in
theorem xd_201d702e : decode (ia_code 212) 19 = .ok (.iastore, 1) := fdd_d (by decide +kernel)
set_option maxRecDepth 100000 in
theorem xh_1be83a15 : ∀ i, i < 6 → sv_g sg 36 i = sv_top := by decide +kernel
set_option maxRecDepth 100000 in
theorem xd_a4864541 : decode (ia_code 212) 20 = .ok (.aload_n 0, 1) := fdd_d (by decide +kernel)
set_option maxRecDepth 100000 in
theorem xd_cb45f90c : decode (ia_code 212) 21 = .ok (.getfield 9, 3) := fdd_d (by decide +kernel)
set_option maxRecDepth 100000 in
theorem xf_0851bbca : wk_gf 212 9 33 4 (34 + 3) = true := by decide +kernel
set_option maxRecDepth 100000 in
theorem xd_c3b91e0f : decode (ia_code 212) 24 = .ok (.iload_n 1, 1) := fdd_d (by decide +kernel)
set_option maxRecDepth 100000 in
theorem xd_e439e58f : decode (ia_code 212) 25 = .ok (.iconst 0, 1) := fdd_d (by decide +kernel)
set_option maxRecDepth 100000 in
theorem xd_494c373b : decode (ia_code 212) 26 = .ok (.aload_n 0, 1) := fdd_d (by decide +kernel)
set_option maxRecDepth 100000 in
theorem xd_7b78ab5c : decode (ia_code 212) 27 = .ok (.getfield 9, 3) := fdd_d (by decide +kernel)
set_option maxRecDepth 100000 in
theorem xd_42c0dabb : decode (ia_code 212) 30 = .ok (.iload_n 1, 1) := fdd_d (by decide +kernel)
set_option maxRecDepth 100000 in
theorem xd_bedb87c1 : decode (ia_code 212) 31 = .ok (.iaload, 1) := fdd_d (by decide +kernel)
set_option maxRecDepth 100000 in
theorem xd_c835f38f : decode (ia_code 212) 32 = .ok (.aload_n 0, 1) := fdd_d (by decide +kernel)
set_option maxRecDepth 100000 in
theorem xd_0ea6ff56 : decode (ia_code 212) 33 = .ok (.getfield 30, 3) := fdd_d (by decide +kernel)
set_option maxRecDepth 100000 in
theorem xf_3b916a19 : wk_gf 212 30 33 0 (4 + 3) = true := by decide +kernel
set_option maxRecDepth 100000 in
theorem xd_88770970 : decode (ia_code 212) 36 = .ok (.getfield 87, 3) := fdd_d (by decide +kernel)
set_option maxRecDepth 100000 in
theorem xf_10b9a8f9 : wk_gf 212 87 4 13 (11 + 3) = true := by decide +kernel
set_option maxRecDepth 100000 in
theorem xd_9eaa0999 : decode (ia_code 212) 39 = .ok (.iload_n 2, 1) := fdd_d (by decide +kernel)
set_option maxRecDepth 100000 in
theorem xd_b25b3adf : decode (ia_code 212) 40 = .ok (.iaload, 1) := fdd_d (by decide +kernel)
set_option maxRecDepth 100000 in
theorem xf_8aa6ba27 : wk_ar 11 50 4 = true := by decide +kernel
set_option maxRecDepth 100000 in
theorem xd_6c4f2eb1 : decode (ia_code 212) 41 = .ok (.isub, 1) := fdd_d (by decide +kernel)
set_option maxRecDepth 100000 in
theorem xd_0289a9ad : decode (ia_code 212) 42 = .ok (.invokestatic 90, 3) := fdd_d (by decide +kernel)
set_option maxRecDepth 100000 in
theorem xl_b5b82956 : ia_pl (ia_cls 212) 90 = some (17, 0, 0, 0, 931) := by decide +kernel
set_option maxRecDepth 100000 in
theorem xd_5c9f8a23 : decode (ia_code 212) 45 = .ok (.iastore, 1) := fdd_d (by decide +kernel)
set_option maxRecDepth 100000 in
theorem xh_f7d3a48a : ∀ i, i < 6 → sv_g sg 34 i = sv_top := by decide +kernel
set_option maxRecDepth 100000 in
theorem xd_92fa19ab : decode (ia_code 212) 46 = .ok (.return_, 1) := fdd_d (by decide +kernel)
set_option maxRecDepth 100000 in
theorem xr_55613d82 : ia_ret 212 = none := by decide +kernel
set_option maxRecDepth 100000 in
theorem xm_52b0b99b : ia_maxL 212 = 3 := by decide +kernel
set_option maxRecDepth 100000 in
theorem xd_e74c200d : decode (ia_code 9) 0 = .ok (.aload_n 0, 1) := fdd_d (by decide +kernel)
set_option maxRecDepth 100000 in
theorem xd_1b5c3004 : decode (ia_code 9) 1 = .ok (.iload_n 1, 1) := fdd_d (by decide +kernel)
set_option maxRecDepth 100000 in
theorem xs_23_ef2370ea {a1 : Int32} {w : cm_W} (hG : sv_w sg w) : ∃ x : Int32, cm_C 1 23 [.inr (.inr (some 0)), .inl a1] w (some (.inl x), w) ∧ ((x.toInt = 1 ∧ 0 ≤ a1.toInt ∧ a1.toInt ≤ 5) ∨ (x.toInt = 0)) := by
  obtain ⟨r, w', hC, hG', hF, q, hq, hr, hp, hs⟩ := wk_use (d := 1) sm_23_ef2370ea_ok (by decide) (as := [.inr (.inr (some 0)), .inl a1]) (w := w) ⟨rfl, sv_in_top _, trivial⟩ (fun f hf => by
    cases hf) hG
  have ew : w' = w := Prod.ext (funext fun k => funext fun i => (hF k i (fun ⟨r, z, _⟩ => by cases z)).1) (funext fun k => funext fun i => (hF k i (fun ⟨r, z, _⟩ => by cases z)).2)
  subst ew
  simp only [sm_23_ef2370ea, List.mem_cons, List.not_mem_nil, or_false] at hq
  rcases hq with rfl | rfl
  · obtain ⟨x, rfl, hx⟩ := wk_int hr
    have hx := hb_in hx
    have ra1 := hb_in (lo := 2147483648) (hi := 2147483653) (x := a1) hp.2.1
    exact ⟨x, hC, Or.inl ⟨by omega, by omega, by omega⟩⟩
  · obtain ⟨x, rfl, hx⟩ := wk_int hr
    have hx := hb_in hx
    exact ⟨x, hC, Or.inr ((by omega))⟩
set_option maxRecDepth 100000 in
theorem xl_7bdd4cec : ia_pl (ia_cls 9) 153 = some (1, 23, 0, 0, 905) := by decide +kernel
set_option maxRecDepth 100000 in
theorem xn_2ed70f6b : ia_na 23 = 2 := by decide +kernel
set_option maxRecDepth 100000 in
theorem xc_d265dc1c : ia_mc 23 = 0 ∧ ia_ms 23 = 0 := ⟨by decide +kernel, by decide +kernel⟩
set_option maxRecDepth 100000 in
theorem xv_51e6c652 : cm_rcv 23 [.inr (.inr (some 0))] = true := by decide +kernel
set_option maxRecDepth 100000 in
theorem xd_b07c252f : decode (ia_code 9) 2 = .ok (.invokevirtual 153, 3) := fdd_d (by decide +kernel)
set_option maxRecDepth 100000 in
theorem xd_9511129e : decode (ia_code 9) 5 = .ok (.ifCond .eq 11, 3) := fdd_d (by decide +kernel)
set_option maxRecDepth 100000 in
theorem xd_a08bdc5d : decode (ia_code 9) 16 = .ok (.iconst (-1), 1) := fdd_d (by decide +kernel)
set_option maxRecDepth 100000 in
theorem xd_472066ba : decode (ia_code 9) 17 = .ok (.ireturn, 1) := fdd_d (by decide +kernel)
set_option maxRecDepth 100000 in
theorem xr_9879eeb7 : ia_ret 9 = some .int := by decide +kernel
set_option maxRecDepth 100000 in
theorem xd_e7f5632b : decode (ia_code 9) 8 = .ok (.aload_n 0, 1) := fdd_d (by decide +kernel)
set_option maxRecDepth 100000 in
theorem xd_5c4509f2 : decode (ia_code 9) 9 = .ok (.iload_n 2, 1) := fdd_d (by decide +kernel)
set_option maxRecDepth 100000 in
theorem xs_20_ef2370ea {a1 : Int32} {w : cm_W} (hG : sv_w sg w) : ∃ x : Int32, cm_C 1 20 [.inr (.inr (some 0)), .inl a1] w (some (.inl x), w) ∧ ((x.toInt = 1 ∧ 0 ≤ a1.toInt ∧ a1.toInt ≤ 3) ∨ (x.toInt = 0)) := by
  obtain ⟨r, w', hC, hG', hF, q, hq, hr, hp, hs⟩ := wk_use (d := 1) sm_20_ef2370ea_ok (by decide) (as := [.inr (.inr (some 0)), .inl a1]) (w := w) ⟨rfl, sv_in_top _, trivial⟩ (fun f hf => by
    cases hf) hG
  have ew : w' = w := Prod.ext (funext fun k => funext fun i => (hF k i (fun ⟨r, z, _⟩ => by cases z)).1) (funext fun k => funext fun i => (hF k i (fun ⟨r, z, _⟩ => by cases z)).2)
  subst ew
  simp only [sm_20_ef2370ea, List.mem_cons, List.not_mem_nil, or_false] at hq
  rcases hq with rfl | rfl
  · obtain ⟨x, rfl, hx⟩ := wk_int hr
    have hx := hb_in hx
    have ra1 := hb_in (lo := 2147483648) (hi := 2147483651) (x := a1) hp.2.1
    exact ⟨x, hC, Or.inl ⟨by omega, by omega, by omega⟩⟩
  · obtain ⟨x, rfl, hx⟩ := wk_int hr
    have hx := hb_in hx
    exact ⟨x, hC, Or.inr ((by omega))⟩
set_option maxRecDepth 100000 in
theorem xl_03778a89 : ia_pl (ia_cls 9) 191 = some (1, 20, 0, 0, 849) := by decide +kernel
set_option maxRecDepth 100000 in
theorem xn_697775bb : ia_na 20 = 2 := by decide +kernel
set_option maxRecDepth 100000 in
theorem xc_acbd0b8c : ia_mc 20 = 0 ∧ ia_ms 20 = 0 := ⟨by decide +kernel, by decide +kernel⟩
set_option maxRecDepth 100000 in
theorem xv_42ceff21 : cm_rcv 20 [.inr (.inr (some 0))] = true := by decide +kernel
set_option maxRecDepth 100000 in
theorem xd_4d66e16f : decode (ia_code 9) 10 = .ok (.invokevirtual 191, 3) := fdd_d (by decide +kernel)
set_option maxRecDepth 100000 in
theorem xd_d3f01e20 : decode (ia_code 9) 13 = .ok (.ifCond .ne 5, 3) := fdd_d (by decide +kernel)
set_option maxRecDepth 100000 in
theorem xd_f687aef0 : decode (ia_code 9) 18 = .ok (.aload_n 0, 1) := fdd_d (by decide +kernel)
set_option maxRecDepth 100000 in
theorem xd_219e4c8c : decode (ia_code 9) 19 = .ok (.getfield 46, 3) := fdd_d (by decide +kernel)
set_option maxRecDepth 100000 in
theorem xf_5807a9e3 : wk_gf 9 46 0 7 (33 + 3) = true := by decide +kernel
set_option maxRecDepth 100000 in
theorem xd_24d56dca : decode (ia_code 9) 22 = .ok (.iload_n 1, 1) := fdd_d (by decide +kernel)
set_option maxRecDepth 100000 in
theorem xd_f806fdce : decode (ia_code 9) 23 = .ok (.iload_n 2, 1) := fdd_d (by decide +kernel)
set_option maxRecDepth 100000 in
theorem xl_35f83684 : ia_pl (ia_cls 9) 265 = some (1, 216, 0, 0, 909) := by decide +kernel
set_option maxRecDepth 100000 in
theorem xn_db8deddf : ia_na 216 = 3 := by decide +kernel
set_option maxRecDepth 100000 in
theorem xc_9c1060a0 : ia_mc 216 = 0 ∧ ia_ms 216 = 0 := ⟨by decide +kernel, by decide +kernel⟩
set_option maxRecDepth 100000 in
theorem xv_fd1b3353 : cm_rcv 216 [.inr (.inr (some 33))] = true := by decide +kernel
set_option maxRecDepth 100000 in
theorem xd_8ad8441c : decode (ia_code 9) 24 = .ok (.invokevirtual 265, 3) := fdd_d (by decide +kernel)
set_option maxRecDepth 100000 in
theorem xd_8c62baae : decode (ia_code 9) 27 = .ok (.istore_n 3, 1) := fdd_d (by decide +kernel)
set_option maxRecDepth 100000 in
theorem xm_de90c695 : ia_maxL 9 = 4 := by decide +kernel
set_option maxRecDepth 100000 in
theorem xd_b33aae65 : decode (ia_code 9) 28 = .ok (.iload_n 3, 1) := fdd_d (by decide +kernel)
set_option maxRecDepth 100000 in
theorem xd_ad6728b9 : decode (ia_code 9) 29 = .ok (.ifCond .ne 23, 3) := fdd_d (by decide +kernel)
set_option maxRecDepth 100000 in
theorem xd_6f0d09dd : decode (ia_code 9) 52 = .ok (.iload_n 3, 1) := fdd_d (by decide +kernel)
set_option maxRecDepth 100000 in
theorem xd_0978f101 : decode (ia_code 9) 53 = .ok (.ireturn, 1) := fdd_d (by decide +kernel)
set_option maxRecDepth 100000 in
theorem xd_c293f230 : decode (ia_code 9) 32 = .ok (.aload_n 0, 1) := fdd_d (by decide +kernel)
set_option maxRecDepth 100000 in
theorem xd_43e561ac : decode (ia_code 9) 33 = .ok (.getfield 56, 3) := fdd_d (by decide +kernel)
set_option maxRecDepth 100000 in
theorem xf_ab7ff5e3 : wk_gf 9 56 0 9 (47 + 3) = true := by decide +kernel
set_option maxRecDepth 100000 in
theorem xd_c2cf53a3 : decode (ia_code 9) 36 = .ok (.aload_n 0, 1) := fdd_d (by decide +kernel)
set_option maxRecDepth 100000 in
theorem xd_7304f8f2 : decode (ia_code 9) 37 = .ok (.getfield 46, 3) := fdd_d (by decide +kernel)
set_option maxRecDepth 100000 in
theorem xl_354dbd07 : ia_pl (ia_cls 9) 269 = some (1, 55, 0, 0, 917) := by decide +kernel
set_option maxRecDepth 100000 in
theorem xn_bc92ca73 : ia_na 55 = 2 := by decide +kernel
set_option maxRecDepth 100000 in
theorem xc_4468db2a : ia_mc 55 = 0 ∧ ia_ms 55 = 0 := ⟨by decide +kernel, by decide +kernel⟩
set_option maxRecDepth 100000 in
theorem xv_d8d455c0 : cm_rcv 55 [.inr (.inr (some 47))] = true := by decide +kernel
set_option maxRecDepth 100000 in
theorem xd_3df81d66 : decode (ia_code 9) 40 = .ok (.invokevirtual 269, 3) := fdd_d (by decide +kernel)
set_option maxRecDepth 100000 in
theorem xd_68f82f93 : decode (ia_code 9) 43 = .ok (.aload_n 0, 1) := fdd_d (by decide +kernel)
set_option maxRecDepth 100000 in
theorem xd_9e2a3587 : decode (ia_code 9) 44 = .ok (.getfield 46, 3) := fdd_d (by decide +kernel)
set_option maxRecDepth 100000 in
theorem xd_0fc774dd : decode (ia_code 9) 47 = .ok (.iload_n 1, 1) := fdd_d (by decide +kernel)
set_option maxRecDepth 100000 in
theorem xd_3e67d585 : decode (ia_code 9) 48 = .ok (.iload_n 2, 1) := fdd_d (by decide +kernel)
set_option maxRecDepth 100000 in
theorem xl_0efd7298 : ia_pl (ia_cls 9) 273 = some (1, 212, 0, 0, 927) := by decide +kernel
set_option maxRecDepth 100000 in
theorem xn_2e0d4b1f : ia_na 212 = 3 := by decide +kernel
set_option maxRecDepth 100000 in
theorem xc_69cc67f3 : ia_mc 212 = 0 ∧ ia_ms 212 = 0 := ⟨by decide +kernel, by decide +kernel⟩
set_option maxRecDepth 100000 in
theorem xv_8c912979 : cm_rcv 212 [.inr (.inr (some 33))] = true := by decide +kernel
set_option maxRecDepth 100000 in
theorem xd_c5cc783b : decode (ia_code 9) 49 = .ok (.invokevirtual 273, 3) := fdd_d (by decide +kernel)
set_option maxRecDepth 100000 in
theorem xd_b2650db1 : decode (ia_code 1) 0 = .ok (.aload_n 0, 1) := fdd_d (by decide +kernel)
set_option maxRecDepth 100000 in
theorem xd_4e751db8 : decode (ia_code 1) 1 = .ok (.iload_n 1, 1) := fdd_d (by decide +kernel)
set_option maxRecDepth 100000 in
theorem xl_98c978b8 : ia_pl (ia_cls 1) 153 = some (1, 23, 0, 0, 905) := by decide +kernel
set_option maxRecDepth 100000 in
theorem xd_4f1faade : decode (ia_code 1) 2 = .ok (.invokevirtual 153, 3) := fdd_d (by decide +kernel)
set_option maxRecDepth 100000 in
theorem xd_037165e0 : decode (ia_code 1) 5 = .ok (.ifCond .ne 5, 3) := fdd_d (by decide +kernel)
set_option maxRecDepth 100000 in
theorem xd_34bc3b5c : decode (ia_code 1) 10 = .ok (.aload_n 0, 1) := fdd_d (by decide +kernel)
set_option maxRecDepth 100000 in
theorem xd_a3491a99 : decode (ia_code 1) 11 = .ok (.getfield 46, 3) := fdd_d (by decide +kernel)
set_option maxRecDepth 100000 in
theorem xf_8a0a955d : wk_gf 1 46 0 7 (33 + 3) = true := by decide +kernel
set_option maxRecDepth 100000 in
theorem xd_53836012 : decode (ia_code 1) 14 = .ok (.iload_n 1, 1) := fdd_d (by decide +kernel)
set_option maxRecDepth 100000 in
theorem xs_215_ec8c1eaf {a1 : Int32} {w : cm_W} (h1 : 0 ≤ a1.toInt ∧ a1.toInt ≤ 5) (hG : sv_w sg w) : ∃ x : Int32, cm_C 2 215 [.inr (.inr (some 33)), .inl a1] w (some (.inl x), w) ∧ ((0 ≤ x.toInt ∧ x.toInt ≤ 1)) := by
  obtain ⟨r, w', hC, hG', hF, q, hq, hr, hp, hs⟩ := wk_use (d := 2) sm_215_ec8c1eaf_ok (by decide) (as := [.inr (.inr (some 33)), .inl a1]) (w := w) ⟨rfl, hb_mk (lo := 2147483648) (hi := 2147483653) (by have := h1.1; omega) (by have := h1.2; omega), trivial⟩ (fun f hf => by
    cases hf) hG
  have ew : w' = w := Prod.ext (funext fun k => funext fun i => (hF k i (fun ⟨r, z, _⟩ => by cases z)).1) (funext fun k => funext fun i => (hF k i (fun ⟨r, z, _⟩ => by cases z)).2)
  subst ew
  simp only [sm_215_ec8c1eaf, List.mem_cons, List.not_mem_nil, or_false] at hq
  rcases hq with rfl
  · obtain ⟨x, rfl, hx⟩ := wk_int hr
    have hx := hb_in hx
    exact ⟨x, hC, ⟨by omega, by omega⟩⟩
set_option maxRecDepth 100000 in
theorem xl_9e538a88 : ia_pl (ia_cls 1) 276 = some (1, 215, 0, 0, 938) := by decide +kernel
set_option maxRecDepth 100000 in
theorem xn_eb2aa799 : ia_na 215 = 2 := by decide +kernel
set_option maxRecDepth 100000 in
theorem xc_ad55234d : ia_mc 215 = 0 ∧ ia_ms 215 = 0 := ⟨by decide +kernel, by decide +kernel⟩
set_option maxRecDepth 100000 in
theorem xv_34043bec : cm_rcv 215 [.inr (.inr (some 33))] = true := by decide +kernel
set_option maxRecDepth 100000 in
theorem xd_0b99ac02 : decode (ia_code 1) 15 = .ok (.invokevirtual 276, 3) := fdd_d (by decide +kernel)
set_option maxRecDepth 100000 in
theorem xd_6a55c66c : decode (ia_code 1) 18 = .ok (.istore_n 2, 1) := fdd_d (by decide +kernel)
set_option maxRecDepth 100000 in
theorem xm_708418f7 : ia_maxL 1 = 3 := by decide +kernel
set_option maxRecDepth 100000 in
theorem xd_8fb512a3 : decode (ia_code 1) 19 = .ok (.iload_n 2, 1) := fdd_d (by decide +kernel)
set_option maxRecDepth 100000 in
theorem xd_4b368a4a : decode (ia_code 1) 20 = .ok (.ifCond .ne 22, 3) := fdd_d (by decide +kernel)
set_option maxRecDepth 100000 in
theorem xd_11ca93c0 : decode (ia_code 1) 42 = .ok (.iload_n 2, 1) := fdd_d (by decide +kernel)
set_option maxRecDepth 100000 in
theorem xd_325b0676 : decode (ia_code 1) 43 = .ok (.ireturn, 1) := fdd_d (by decide +kernel)
set_option maxRecDepth 100000 in
theorem xr_c27a3dda : ia_ret 1 = some .int := by decide +kernel
set_option maxRecDepth 100000 in
theorem xd_1a47ab49 : decode (ia_code 1) 23 = .ok (.aload_n 0, 1) := fdd_d (by decide +kernel)
set_option maxRecDepth 100000 in
theorem xd_c474fe31 : decode (ia_code 1) 24 = .ok (.getfield 56, 3) := fdd_d (by decide +kernel)
set_option maxRecDepth 100000 in
theorem xf_7972c95d : wk_gf 1 56 0 9 (47 + 3) = true := by decide +kernel
set_option maxRecDepth 100000 in
theorem xd_1a1b0ada : decode (ia_code 1) 27 = .ok (.aload_n 0, 1) := fdd_d (by decide +kernel)
set_option maxRecDepth 100000 in
theorem xd_d89ef4d8 : decode (ia_code 1) 28 = .ok (.getfield 46, 3) := fdd_d (by decide +kernel)
set_option maxRecDepth 100000 in
theorem xl_d6598953 : ia_pl (ia_cls 1) 269 = some (1, 55, 0, 0, 917) := by decide +kernel
set_option maxRecDepth 100000 in
theorem xd_41cf4627 : decode (ia_code 1) 31 = .ok (.invokevirtual 269, 3) := fdd_d (by decide +kernel)
set_option maxRecDepth 100000 in
theorem xd_eddb56c0 : decode (ia_code 1) 34 = .ok (.aload_n 0, 1) := fdd_d (by decide +kernel)
set_option maxRecDepth 100000 in
theorem xd_4dbe1b0d : decode (ia_code 1) 35 = .ok (.getfield 46, 3) := fdd_d (by decide +kernel)
set_option maxRecDepth 100000 in
theorem xd_8a5d4ea8 : decode (ia_code 1) 38 = .ok (.iload_n 1, 1) := fdd_d (by decide +kernel)
set_option maxRecDepth 100000 in
theorem xs_213_ec8c1eaf {a1 : Int32} {w : cm_W} (h1 : 0 ≤ a1.toInt ∧ a1.toInt ≤ 5) (hG : sv_w sg w) : ∃ w' : cm_W, cm_C 1 213 [.inr (.inr (some 33)), .inl a1] w (none, w') ∧ sv_w sg w' ∧ (∀ k i, ¬ ((k = 33 ∧ i = 2)) → w'.1 k i = w.1 k i ∧ w'.2 k i = w.2 k i) ∧ ((True)) := by
  obtain ⟨r, w', hC, hG', hF, q, hq, hr, hp, hs⟩ := wk_use (d := 1) sm_213_ec8c1eaf_ok (by decide) (as := [.inr (.inr (some 33)), .inl a1]) (w := w) ⟨rfl, hb_mk (lo := 2147483648) (hi := 2147483653) (by have := h1.1; omega) (by have := h1.2; omega), trivial⟩ (fun f hf => by
    cases hf) hG
  have hfr : ∀ k i, ¬ ((k = 33 ∧ i = 2)) → w'.1 k i = w.1 k i ∧ w'.2 k i = w.2 k i := fun k i hki => hF k i (fun ⟨r, z, z1, z2, z3⟩ => by
    simp only [sm_213_ec8c1eaf, List.mem_cons, List.not_mem_nil, or_false] at z
    rcases z with rfl
    all_goals (simp only at z1 z2 z3; omega))
  simp only [sm_213_ec8c1eaf, List.mem_cons, List.not_mem_nil, or_false] at hq
  rcases hq with rfl
  · obtain rfl : r = none := by
      match r, hr with
      | none, _ => rfl
    exact ⟨w', hC, hG', hfr, (trivial)⟩
set_option maxRecDepth 100000 in
theorem xl_c8b0b0e1 : ia_pl (ia_cls 1) 279 = some (1, 213, 0, 0, 942) := by decide +kernel
set_option maxRecDepth 100000 in
theorem xn_646a5239 : ia_na 213 = 2 := by decide +kernel
set_option maxRecDepth 100000 in
theorem xc_cfdfa497 : ia_mc 213 = 0 ∧ ia_ms 213 = 0 := ⟨by decide +kernel, by decide +kernel⟩
set_option maxRecDepth 100000 in
theorem xv_7d4b2cd3 : cm_rcv 213 [.inr (.inr (some 33))] = true := by decide +kernel
set_option maxRecDepth 100000 in
theorem xd_fdacd30a : decode (ia_code 1) 39 = .ok (.invokevirtual 279, 3) := fdd_d (by decide +kernel)
set_option maxRecDepth 100000 in
theorem xd_6ded780f : decode (ia_code 1) 8 = .ok (.iconst (-1), 1) := fdd_d (by decide +kernel)
set_option maxRecDepth 100000 in
theorem xd_5c730e33 : decode (ia_code 1) 9 = .ok (.ireturn, 1) := fdd_d (by decide +kernel)
set_option maxRecDepth 100000 in
theorem xd_5ab45444 : decode (ia_code 29) 0 = .ok (.aload_n 0, 1) := fdd_d (by decide +kernel)
set_option maxRecDepth 100000 in
theorem xd_a6a4444d : decode (ia_code 29) 1 = .ok (.iload_n 1, 1) := fdd_d (by decide +kernel)
set_option maxRecDepth 100000 in
theorem xl_20c5240b : ia_pl (ia_cls 29) 153 = some (1, 23, 0, 0, 905) := by decide +kernel
set_option maxRecDepth 100000 in
theorem xd_8f1f5f00 : decode (ia_code 29) 2 = .ok (.invokevirtual 153, 3) := fdd_d (by decide +kernel)
set_option maxRecDepth 100000 in
theorem xd_2ad3d06c : decode (ia_code 29) 5 = .ok (.ifCond .ne 5, 3) := fdd_d (by decide +kernel)
set_option maxRecDepth 100000 in
theorem xd_f983ec96 : decode (ia_code 29) 10 = .ok (.aload_n 0, 1) := fdd_d (by decide +kernel)
set_option maxRecDepth 100000 in
theorem xd_8aebaf15 : decode (ia_code 29) 11 = .ok (.getfield 46, 3) := fdd_d (by decide +kernel)
set_option maxRecDepth 100000 in
theorem xf_3cbe6fa6 : wk_gf 29 46 0 7 (33 + 3) = true := by decide +kernel
set_option maxRecDepth 100000 in
theorem xd_9ebcb7d8 : decode (ia_code 29) 14 = .ok (.iload_n 1, 1) := fdd_d (by decide +kernel)
set_option maxRecDepth 100000 in
theorem xs_218_ec8c1eaf {a1 : Int32} {w : cm_W} (h1 : 0 ≤ a1.toInt ∧ a1.toInt ≤ 5) (hG : sv_w sg w) : ∃ x : Int32, cm_C 2 218 [.inr (.inr (some 33)), .inl a1] w (some (.inl x), w) ∧ ((0 ≤ x.toInt ∧ x.toInt ≤ 1)) := by
  obtain ⟨r, w', hC, hG', hF, q, hq, hr, hp, hs⟩ := wk_use (d := 2) sm_218_ec8c1eaf_ok (by decide) (as := [.inr (.inr (some 33)), .inl a1]) (w := w) ⟨rfl, hb_mk (lo := 2147483648) (hi := 2147483653) (by have := h1.1; omega) (by have := h1.2; omega), trivial⟩ (fun f hf => by
    cases hf) hG
  have ew : w' = w := Prod.ext (funext fun k => funext fun i => (hF k i (fun ⟨r, z, _⟩ => by cases z)).1) (funext fun k => funext fun i => (hF k i (fun ⟨r, z, _⟩ => by cases z)).2)
  subst ew
  simp only [sm_218_ec8c1eaf, List.mem_cons, List.not_mem_nil, or_false] at hq
  rcases hq with rfl
  · obtain ⟨x, rfl, hx⟩ := wk_int hr
    have hx := hb_in hx
    exact ⟨x, hC, ⟨by omega, by omega⟩⟩
set_option maxRecDepth 100000 in
theorem xl_1d96ca4d : ia_pl (ia_cls 29) 282 = some (1, 218, 0, 0, 950) := by decide +kernel
set_option maxRecDepth 100000 in
theorem xn_13ba6328 : ia_na 218 = 2 := by decide +kernel
set_option maxRecDepth 100000 in
theorem xc_ce53ef9d : ia_mc 218 = 0 ∧ ia_ms 218 = 0 := ⟨by decide +kernel, by decide +kernel⟩
set_option maxRecDepth 100000 in
theorem xv_57401038 : cm_rcv 218 [.inr (.inr (some 33))] = true := by decide +kernel
set_option maxRecDepth 100000 in
theorem xd_6ee44731 : decode (ia_code 29) 15 = .ok (.invokevirtual 282, 3) := fdd_d (by decide +kernel)
set_option maxRecDepth 100000 in
theorem xd_1129d215 : decode (ia_code 29) 18 = .ok (.istore_n 2, 1) := fdd_d (by decide +kernel)
set_option maxRecDepth 100000 in
theorem xm_727d1492 : ia_maxL 29 = 3 := by decide +kernel
set_option maxRecDepth 100000 in
theorem xd_428ac569 : decode (ia_code 29) 19 = .ok (.iload_n 2, 1) := fdd_d (by decide +kernel)
set_option maxRecDepth 100000 in
theorem xd_670b33ac : decode (ia_code 29) 20 = .ok (.ifCond .ne 22, 3) := fdd_d (by decide +kernel)
set_option maxRecDepth 100000 in
theorem xd_dcf5440a : decode (ia_code 29) 42 = .ok (.iload_n 2, 1) := fdd_d (by decide +kernel)
set_option maxRecDepth 100000 in
theorem xd_5bd6c031 : decode (ia_code 29) 43 = .ok (.ireturn, 1) := fdd_d (by decide +kernel)
set_option maxRecDepth 100000 in
theorem xr_61919b38 : ia_ret 29 = some .int := by decide +kernel
set_option maxRecDepth 100000 in
theorem xd_d7787c83 : decode (ia_code 29) 23 = .ok (.aload_n 0, 1) := fdd_d (by decide +kernel)
set_option maxRecDepth 100000 in
theorem xd_edd64bbd : decode (ia_code 29) 24 = .ok (.getfield 56, 3) := fdd_d (by decide +kernel)
set_option maxRecDepth 100000 in
theorem xf_cfc633a6 : wk_gf 29 56 0 9 (47 + 3) = true := by decide +kernel
set_option maxRecDepth 100000 in
theorem xd_d724dd10 : decode (ia_code 29) 27 = .ok (.aload_n 0, 1) := fdd_d (by decide +kernel)
set_option maxRecDepth 100000 in
theorem xd_f13c4154 : decode (ia_code 29) 28 = .ok (.getfield 46, 3) := fdd_d (by decide +kernel)
set_option maxRecDepth 100000 in
theorem xl_6e55d5e0 : ia_pl (ia_cls 29) 269 = some (1, 55, 0, 0, 917) := by decide +kernel
set_option maxRecDepth 100000 in
theorem xd_2064b901 : decode (ia_code 29) 31 = .ok (.invokevirtual 269, 3) := fdd_d (by decide +kernel)
set_option maxRecDepth 100000 in
theorem xd_20e4810a : decode (ia_code 29) 34 = .ok (.aload_n 0, 1) := fdd_d (by decide +kernel)
set_option maxRecDepth 100000 in
theorem xd_641cae81 : decode (ia_code 29) 35 = .ok (.getfield 46, 3) := fdd_d (by decide +kernel)
set_option maxRecDepth 100000 in
theorem xd_47629962 : decode (ia_code 29) 38 = .ok (.iload_n 1, 1) := fdd_d (by decide +kernel)
set_option maxRecDepth 100000 in
theorem xl_9a605e8b : ia_pl (ia_cls 29) 279 = some (1, 213, 0, 0, 942) := by decide +kernel
set_option maxRecDepth 100000 in
theorem xd_9c072c2c : decode (ia_code 29) 39 = .ok (.invokevirtual 279, 3) := fdd_d (by decide +kernel)
set_option maxRecDepth 100000 in
theorem xd_16916c76 : decode (ia_code 29) 8 = .ok (.iconst (-1), 1) := fdd_d (by decide +kernel)
set_option maxRecDepth 100000 in
theorem xd_d777b7a0 : decode (ia_code 29) 9 = .ok (.ireturn, 1) := fdd_d (by decide +kernel)
set_option maxRecDepth 100000 in
theorem xd_3043a449 : decode (ia_code 27) 0 = .ok (.aload_n 0, 1) := fdd_d (by decide +kernel)
set_option maxRecDepth 100000 in
theorem xd_cc53b440 : decode (ia_code 27) 1 = .ok (.iload_n 1, 1) := fdd_d (by decide +kernel)
set_option maxRecDepth 100000 in
theorem xs_22_ef2370ea {a1 : Int32} {w : cm_W} (hG : sv_w sg w) : ∃ x : Int32, cm_C 1 22 [.inr (.inr (some 0)), .inl a1] w (some (.inl x), w) ∧ ((x.toInt = 1 ∧ 0 ≤ a1.toInt ∧ a1.toInt ≤ 5) ∨ (x.toInt = 0)) := by
  obtain ⟨r, w', hC, hG', hF, q, hq, hr, hp, hs⟩ := wk_use (d := 1) sm_22_ef2370ea_ok (by decide) (as := [.inr (.inr (some 0)), .inl a1]) (w := w) ⟨rfl, sv_in_top _, trivial⟩ (fun f hf => by
    cases hf) hG
  have ew : w' = w := Prod.ext (funext fun k => funext fun i => (hF k i (fun ⟨r, z, _⟩ => by cases z)).1) (funext fun k => funext fun i => (hF k i (fun ⟨r, z, _⟩ => by cases z)).2)
  subst ew
  simp only [sm_22_ef2370ea, List.mem_cons, List.not_mem_nil, or_false] at hq
  rcases hq with rfl | rfl
  · obtain ⟨x, rfl, hx⟩ := wk_int hr
    have hx := hb_in hx
    have ra1 := hb_in (lo := 2147483648) (hi := 2147483653) (x := a1) hp.2.1
    exact ⟨x, hC, Or.inl ⟨by omega, by omega, by omega⟩⟩
  · obtain ⟨x, rfl, hx⟩ := wk_int hr
    have hx := hb_in hx
    exact ⟨x, hC, Or.inr ((by omega))⟩
set_option maxRecDepth 100000 in
theorem xl_cab7562f : ia_pl (ia_cls 27) 200 = some (1, 22, 0, 0, 857) := by decide +kernel
set_option maxRecDepth 100000 in
theorem xn_13b726db : ia_na 22 = 2 := by decide +kernel
set_option maxRecDepth 100000 in
theorem xc_f82d916c : ia_mc 22 = 0 ∧ ia_ms 22 = 0 := ⟨by decide +kernel, by decide +kernel⟩
set_option maxRecDepth 100000 in
theorem xv_5f012e83 : cm_rcv 22 [.inr (.inr (some 0))] = true := by decide +kernel
set_option maxRecDepth 100000 in
theorem xd_8df4c7bb : decode (ia_code 27) 2 = .ok (.invokevirtual 200, 3) := fdd_d (by decide +kernel)
set_option maxRecDepth 100000 in
theorem xd_156ec557 : decode (ia_code 27) 5 = .ok (.ifCond .ne 5, 3) := fdd_d (by decide +kernel)
set_option maxRecDepth 100000 in
theorem xd_875867db : decode (ia_code 27) 10 = .ok (.aload_n 0, 1) := fdd_d (by decide +kernel)
set_option maxRecDepth 100000 in
theorem xd_b556ba2e : decode (ia_code 27) 11 = .ok (.getfield 46, 3) := fdd_d (by decide +kernel)
set_option maxRecDepth 100000 in
theorem xf_5e8e0148 : wk_gf 27 46 0 7 (33 + 3) = true := by decide +kernel
set_option maxRecDepth 100000 in
theorem xd_e0673c95 : decode (ia_code 27) 14 = .ok (.iload_n 1, 1) := fdd_d (by decide +kernel)
set_option maxRecDepth 100000 in
theorem xs_217_ec8c1eaf {a1 : Int32} {w : cm_W} (h1 : 0 ≤ a1.toInt ∧ a1.toInt ≤ 5) (hG : sv_w sg w) : ∃ x : Int32, cm_C 4 217 [.inr (.inr (some 33)), .inl a1] w (some (.inl x), w) ∧ ((0 ≤ x.toInt ∧ x.toInt ≤ 3)) := by
  obtain ⟨r, w', hC, hG', hF, q, hq, hr, hp, hs⟩ := wk_use (d := 4) sm_217_ec8c1eaf_ok (by decide) (as := [.inr (.inr (some 33)), .inl a1]) (w := w) ⟨rfl, hb_mk (lo := 2147483648) (hi := 2147483653) (by have := h1.1; omega) (by have := h1.2; omega), trivial⟩ (fun f hf => by
    cases hf) hG
  have ew : w' = w := Prod.ext (funext fun k => funext fun i => (hF k i (fun ⟨r, z, _⟩ => by cases z)).1) (funext fun k => funext fun i => (hF k i (fun ⟨r, z, _⟩ => by cases z)).2)
  subst ew
  simp only [sm_217_ec8c1eaf, List.mem_cons, List.not_mem_nil, or_false] at hq
  rcases hq with rfl
  · obtain ⟨x, rfl, hx⟩ := wk_int hr
    have hx := hb_in hx
    exact ⟨x, hC, ⟨by omega, by omega⟩⟩
set_option maxRecDepth 100000 in
theorem xl_e2603e9b : ia_pl (ia_cls 27) 209 = some (1, 217, 0, 0, 861) := by decide +kernel
set_option maxRecDepth 100000 in
theorem xn_91eaf4f9 : ia_na 217 = 2 := by decide +kernel
set_option maxRecDepth 100000 in
theorem xc_3a03a3c4 : ia_mc 217 = 0 ∧ ia_ms 217 = 0 := ⟨by decide +kernel, by decide +kernel⟩
set_option maxRecDepth 100000 in
theorem xv_0cc136f9 : cm_rcv 217 [.inr (.inr (some 33))] = true := by decide +kernel
set_option maxRecDepth 100000 in
theorem xd_f3f52f3b : decode (ia_code 27) 15 = .ok (.invokevirtual 209, 3) := fdd_d (by decide +kernel)
set_option maxRecDepth 100000 in
theorem xd_193a34b3 : decode (ia_code 27) 18 = .ok (.istore_n 2, 1) := fdd_d (by decide +kernel)
set_option maxRecDepth 100000 in
theorem xm_cd4daaf3 : ia_maxL 27 = 3 := by decide +kernel
set_option maxRecDepth 100000 in
theorem xd_3c514e24 : decode (ia_code 27) 19 = .ok (.iload_n 2, 1) := fdd_d (by decide +kernel)
set_option maxRecDepth 100000 in
theorem xd_366407c2 : decode (ia_code 27) 20 = .ok (.ifCond .ne 22, 3) := fdd_d (by decide +kernel)
set_option maxRecDepth 100000 in
theorem xd_a22ecf47 : decode (ia_code 27) 42 = .ok (.iload_n 2, 1) := fdd_d (by decide +kernel)
set_option maxRecDepth 100000 in
theorem xd_1c063f20 : decode (ia_code 27) 43 = .ok (.ireturn, 1) := fdd_d (by decide +kernel)
set_option maxRecDepth 100000 in
theorem xr_9b779788 : ia_ret 27 = some .int := by decide +kernel
set_option maxRecDepth 100000 in
theorem xd_a9a3f7ce : decode (ia_code 27) 23 = .ok (.aload_n 0, 1) := fdd_d (by decide +kernel)
set_option maxRecDepth 100000 in
theorem xd_d26b5e86 : decode (ia_code 27) 24 = .ok (.getfield 56, 3) := fdd_d (by decide +kernel)
set_option maxRecDepth 100000 in
theorem xf_adf65d48 : wk_gf 27 56 0 9 (47 + 3) = true := by decide +kernel
set_option maxRecDepth 100000 in
theorem xd_a9ff565d : decode (ia_code 27) 27 = .ok (.aload_n 0, 1) := fdd_d (by decide +kernel)
set_option maxRecDepth 100000 in
theorem xd_ce81546f : decode (ia_code 27) 28 = .ok (.getfield 46, 3) := fdd_d (by decide +kernel)
set_option maxRecDepth 100000 in
theorem xl_c40ef68b : ia_pl (ia_cls 27) 269 = some (1, 55, 0, 0, 917) := by decide +kernel
set_option maxRecDepth 100000 in
theorem xd_26f66277 : decode (ia_code 27) 31 = .ok (.invokevirtual 269, 3) := fdd_d (by decide +kernel)
set_option maxRecDepth 100000 in
theorem xd_5e3f0a47 : decode (ia_code 27) 34 = .ok (.aload_n 0, 1) := fdd_d (by decide +kernel)
set_option maxRecDepth 100000 in
theorem xd_5ba1bbba : decode (ia_code 27) 35 = .ok (.getfield 46, 3) := fdd_d (by decide +kernel)
set_option maxRecDepth 100000 in
theorem xd_39b9122f : decode (ia_code 27) 38 = .ok (.iload_n 1, 1) := fdd_d (by decide +kernel)
set_option maxRecDepth 100000 in
theorem xs_203_ec8c1eaf {a1 : Int32} {w : cm_W} (h1 : 0 ≤ a1.toInt ∧ a1.toInt ≤ 5) (hG : sv_w sg w) : ∃ w' : cm_W, cm_C 1 203 [.inr (.inr (some 33)), .inl a1] w (none, w') ∧ sv_w sg w' ∧ (∀ k i, ¬ ((k = 38 ∧ 0 ≤ i ∧ i ≤ 5)) → w'.1 k i = w.1 k i ∧ w'.2 k i = w.2 k i) ∧ ((True)) := by
  obtain ⟨r, w', hC, hG', hF, q, hq, hr, hp, hs⟩ := wk_use (d := 1) sm_203_ec8c1eaf_ok (by decide) (as := [.inr (.inr (some 33)), .inl a1]) (w := w) ⟨rfl, hb_mk (lo := 2147483648) (hi := 2147483653) (by have := h1.1; omega) (by have := h1.2; omega), trivial⟩ (fun f hf => by
    cases hf) hG
  have hfr : ∀ k i, ¬ ((k = 38 ∧ 0 ≤ i ∧ i ≤ 5)) → w'.1 k i = w.1 k i ∧ w'.2 k i = w.2 k i := fun k i hki => hF k i (fun ⟨r, z, z1, z2, z3⟩ => by
    simp only [sm_203_ec8c1eaf, List.mem_cons, List.not_mem_nil, or_false] at z
    rcases z with rfl
    all_goals (simp only at z1 z2 z3; omega))
  simp only [sm_203_ec8c1eaf, List.mem_cons, List.not_mem_nil, or_false] at hq
  rcases hq with rfl
  · obtain rfl : r = none := by
      match r, hr with
      | none, _ => rfl
    exact ⟨w', hC, hG', hfr, (trivial)⟩
set_option maxRecDepth 100000 in
theorem xl_714a0e30 : ia_pl (ia_cls 27) 285 = some (1, 203, 0, 0, 958) := by decide +kernel
set_option maxRecDepth 100000 in
theorem xn_af36819c : ia_na 203 = 2 := by decide +kernel
set_option maxRecDepth 100000 in
theorem xc_85a61215 : ia_mc 203 = 0 ∧ ia_ms 203 = 0 := ⟨by decide +kernel, by decide +kernel⟩
set_option maxRecDepth 100000 in
theorem xv_4bb9bc20 : cm_rcv 203 [.inr (.inr (some 33))] = true := by decide +kernel
set_option maxRecDepth 100000 in
theorem xd_ae33a88e : decode (ia_code 27) 39 = .ok (.invokevirtual 285, 3) := fdd_d (by decide +kernel)
set_option maxRecDepth 100000 in
theorem xd_1e828ad0 : decode (ia_code 27) 8 = .ok (.iconst (-1), 1) := fdd_d (by decide +kernel)
set_option maxRecDepth 100000 in
theorem xd_b547d94e : decode (ia_code 27) 9 = .ok (.ireturn, 1) := fdd_d (by decide +kernel)
set_option maxRecDepth 100000 in
theorem xd_f1fe3838 : decode (ia_code 15) 0 = .ok (.iload_n 1, 1) := fdd_d (by decide +kernel)
set_option maxRecDepth 100000 in
theorem xd_46131813 : decode (ia_code 15) 1 = .ok (.iconst 1, 1) := fdd_d (by decide +kernel)
set_option maxRecDepth 100000 in
theorem xd_90f6a8eb : decode (ia_code 15) 2 = .ok (.if_icmp .lt 9, 3) := fdd_d (by decide +kernel)
set_option maxRecDepth 100000 in
theorem xd_54b6d2b0 : decode (ia_code 15) 11 = .ok (.iconst (-1), 1) := fdd_d (by decide +kernel)
set_option maxRecDepth 100000 in
theorem xd_aa6480db : decode (ia_code 15) 12 = .ok (.ireturn, 1) := fdd_d (by decide +kernel)
set_option maxRecDepth 100000 in
theorem xr_874a0718 : ia_ret 15 = some .int := by decide +kernel
set_option maxRecDepth 100000 in
theorem xd_6ad1737f : decode (ia_code 15) 5 = .ok (.iload_n 1, 1) := fdd_d (by decide +kernel)
set_option maxRecDepth 100000 in
theorem xd_e04a7363 : decode (ia_code 15) 6 = .ok (.bipush 60, 2) := fdd_d (by decide +kernel)
set_option maxRecDepth 100000 in
theorem xd_8b353298 : decode (ia_code 15) 8 = .ok (.if_icmp .le 5, 3) := fdd_d (by decide +kernel)
set_option maxRecDepth 100000 in
theorem xd_2e7b6f43 : decode (ia_code 15) 13 = .ok (.aload_n 0, 1) := fdd_d (by decide +kernel)
set_option maxRecDepth 100000 in
theorem xd_69cef78b : decode (ia_code 15) 14 = .ok (.getfield 46, 3) := fdd_d (by decide +kernel)
set_option maxRecDepth 100000 in
theorem xf_b2587b14 : wk_gf 15 46 0 7 (33 + 3) = true := by decide +kernel
set_option maxRecDepth 100000 in
theorem xs_76_4d1d0ea9 {w : cm_W} (hG : sv_w sg w) : ∃ x : Int32, cm_C 1 76 [.inr (.inr (some 33))] w (some (.inl x), w) ∧ ((x.toInt = 1) ∨ (x.toInt = 0)) := by
  obtain ⟨r, w', hC, hG', hF, q, hq, hr, hp, hs⟩ := wk_use (d := 1) sm_76_4d1d0ea9_ok (by decide) (as := [.inr (.inr (some 33))]) (w := w) ⟨rfl, trivial⟩ (fun f hf => by
    cases hf) hG
  have ew : w' = w := Prod.ext (funext fun k => funext fun i => (hF k i (fun ⟨r, z, _⟩ => by cases z)).1) (funext fun k => funext fun i => (hF k i (fun ⟨r, z, _⟩ => by cases z)).2)
  subst ew
  simp only [sm_76_4d1d0ea9, List.mem_cons, List.not_mem_nil, or_false] at hq
  rcases hq with rfl | rfl
  · obtain ⟨x, rfl, hx⟩ := wk_int hr
    have hx := hb_in hx
    exact ⟨x, hC, Or.inl (by omega)⟩
  · obtain ⟨x, rfl, hx⟩ := wk_int hr
    have hx := hb_in hx
    exact ⟨x, hC, Or.inr ((by omega))⟩
set_option maxRecDepth 100000 in
theorem xl_81b338cb : ia_pl (ia_cls 15) 288 = some (1, 76, 0, 0, 966) := by decide +kernel
set_option maxRecDepth 100000 in
theorem xn_2ff34012 : ia_na 76 = 1 := by decide +kernel
set_option maxRecDepth 100000 in
theorem xc_9aee7e58 : ia_mc 76 = 0 ∧ ia_ms 76 = 0 := ⟨by decide +kernel, by decide +kernel⟩
set_option maxRecDepth 100000 in
theorem xv_b86fe694 : cm_rcv 76 [.inr (.inr (some 33))] = true := by decide +kernel
set_option maxRecDepth 100000 in
theorem xd_1fa4076b : decode (ia_code 15) 17 = .ok (.invokevirtual 288, 3) := fdd_d (by decide +kernel)
set_option maxRecDepth 100000 in
theorem xd_5a44a27d : decode (ia_code 15) 20 = .ok (.ifCond .eq 5, 3) := fdd_d (by decide +kernel)
set_option maxRecDepth 100000 in
theorem xd_9bafb411 : decode (ia_code 15) 25 = .ok (.aload_n 0, 1) := fdd_d (by decide +kernel)
set_option maxRecDepth 100000 in
theorem xd_c0a3ef8b : decode (ia_code 15) 26 = .ok (.getfield 56, 3) := fdd_d (by decide +kernel)
set_option maxRecDepth 100000 in
theorem xf_41202714 : wk_gf 15 56 0 9 (47 + 3) = true := by decide +kernel
set_option maxRecDepth 100000 in
theorem xd_9b4a56a4 : decode (ia_code 15) 29 = .ok (.aload_n 0, 1) := fdd_d (by decide +kernel)
set_option maxRecDepth 100000 in
theorem xd_8739f61f : decode (ia_code 15) 30 = .ok (.getfield 46, 3) := fdd_d (by decide +kernel)
set_option maxRecDepth 100000 in
theorem xl_a7dc4a8b : ia_pl (ia_cls 15) 269 = some (1, 55, 0, 0, 917) := by decide +kernel
set_option maxRecDepth 100000 in
theorem xd_1b94e1fa : decode (ia_code 15) 33 = .ok (.invokevirtual 269, 3) := fdd_d (by decide +kernel)
set_option maxRecDepth 100000 in
theorem xd_6c6fe80b : decode (ia_code 15) 36 = .ok (.aload_n 0, 1) := fdd_d (by decide +kernel)
set_option maxRecDepth 100000 in
theorem xd_49690ab7 : decode (ia_code 15) 37 = .ok (.getfield 46, 3) := fdd_d (by decide +kernel)
set_option maxRecDepth 100000 in
theorem xd_d7de57db : decode (ia_code 15) 40 = .ok (.iload_n 1, 1) := fdd_d (by decide +kernel)
set_option maxRecDepth 100000 in
theorem xs_79_b52f6398 {a1 : Int32} {w : cm_W} (h1 : 1 ≤ a1.toInt ∧ a1.toInt ≤ 60) (hG : sv_w sg w) : ∃ x : Int32, ∃ w' : cm_W, cm_C 4 79 [.inr (.inr (some 33)), .inl a1] w (some (.inl x), w') ∧ sv_w sg w' ∧ (∀ k i, ¬ ((k = 33 ∧ i = 1) ∨ (k = 33 ∧ i = 3) ∨ (k = 34 ∧ 0 ≤ i ∧ i ≤ 5) ∨ (k = 35 ∧ 0 ≤ i ∧ i ≤ 5) ∨ (k = 39 ∧ 0 ≤ i ∧ i ≤ 9)) → w'.1 k i = w.1 k i ∧ w'.2 k i = w.2 k i) ∧ ((0 ≤ x.toInt ∧ x.toInt ≤ 60)) := by
  obtain ⟨r, w', hC, hG', hF, q, hq, hr, hp, hs⟩ := wk_use (d := 4) sm_79_b52f6398_ok (by decide) (as := [.inr (.inr (some 33)), .inl a1]) (w := w) ⟨rfl, hb_mk (lo := 2147483649) (hi := 2147483708) (by have := h1.1; omega) (by have := h1.2; omega), trivial⟩ (fun f hf => by
    cases hf) hG
  have hfr : ∀ k i, ¬ ((k = 33 ∧ i = 1) ∨ (k = 33 ∧ i = 3) ∨ (k = 34 ∧ 0 ≤ i ∧ i ≤ 5) ∨ (k = 35 ∧ 0 ≤ i ∧ i ≤ 5) ∨ (k = 39 ∧ 0 ≤ i ∧ i ≤ 9)) → w'.1 k i = w.1 k i ∧ w'.2 k i = w.2 k i := fun k i hki => hF k i (fun ⟨r, z, z1, z2, z3⟩ => by
    simp only [sm_79_b52f6398, List.mem_cons, List.not_mem_nil, or_false] at z
    rcases z with rfl | rfl | rfl | rfl | rfl
    all_goals (simp only at z1 z2 z3; omega))
  simp only [sm_79_b52f6398, List.mem_cons, List.not_mem_nil, or_false] at hq
  rcases hq with rfl
  · obtain ⟨x, rfl, hx⟩ := wk_int hr
    have hx := hb_in hx
    exact ⟨x, w', hC, hG', hfr, ⟨by omega, by omega⟩⟩
set_option maxRecDepth 100000 in
theorem xl_ef743d5a : ia_pl (ia_cls 15) 292 = some (1, 79, 0, 0, 970) := by decide +kernel
set_option maxRecDepth 100000 in
theorem xn_34aa8679 : ia_na 79 = 2 := by decide +kernel
set_option maxRecDepth 100000 in
theorem xc_c424f1c9 : ia_mc 79 = 0 ∧ ia_ms 79 = 0 := ⟨by decide +kernel, by decide +kernel⟩
set_option maxRecDepth 100000 in
theorem xv_e3eec055 : cm_rcv 79 [.inr (.inr (some 33))] = true := by decide +kernel
set_option maxRecDepth 100000 in
theorem xd_3848a109 : decode (ia_code 15) 41 = .ok (.invokevirtual 292, 3) := fdd_d (by decide +kernel)
set_option maxRecDepth 100000 in
theorem xd_17d072dd : decode (ia_code 15) 44 = .ok (.ireturn, 1) := fdd_d (by decide +kernel)
set_option maxRecDepth 100000 in
theorem xd_41b6c569 : decode (ia_code 15) 23 = .ok (.iconst 0, 1) := fdd_d (by decide +kernel)
set_option maxRecDepth 100000 in
theorem xd_6521285d : decode (ia_code 15) 24 = .ok (.ireturn, 1) := fdd_d (by decide +kernel)
set_option maxRecDepth 100000 in
theorem xm_461ebbab : ia_maxL 15 = 2 := by decide +kernel
set_option maxRecDepth 100000 in
theorem xd_6b075f19 : decode (ia_code 46) 0 = .ok (.aload_n 0, 1) := fdd_d (by decide +kernel)
set_option maxRecDepth 100000 in
theorem xd_afc48886 : decode (ia_code 46) 1 = .ok (.getfield 56, 3) := fdd_d (by decide +kernel)
set_option maxRecDepth 100000 in
theorem xf_470854c9 : wk_gf 46 56 0 9 (47 + 3) = true := by decide +kernel
set_option maxRecDepth 100000 in
theorem xd_6b5bfe8a : decode (ia_code 46) 4 = .ok (.aload_n 0, 1) := fdd_d (by decide +kernel)
set_option maxRecDepth 100000 in
theorem xd_9f2511d8 : decode (ia_code 46) 5 = .ok (.getfield 46, 3) := fdd_d (by decide +kernel)
set_option maxRecDepth 100000 in
theorem xf_b47008c9 : wk_gf 46 46 0 7 (33 + 3) = true := by decide +kernel
set_option maxRecDepth 100000 in
theorem xl_9e777a46 : ia_pl (ia_cls 46) 295 = some (1, 54, 0, 0, 993) := by decide +kernel
set_option maxRecDepth 100000 in
theorem xn_81f2e3c3 : ia_na 54 = 2 := by decide +kernel
set_option maxRecDepth 100000 in
theorem xc_6e20965a : ia_mc 54 = 0 ∧ ia_ms 54 = 0 := ⟨by decide +kernel, by decide +kernel⟩
set_option maxRecDepth 100000 in
theorem xv_290e506a : cm_rcv 54 [.inr (.inr (some 47))] = true := by decide +kernel
set_option maxRecDepth 100000 in
theorem xd_e0bea56c : decode (ia_code 46) 8 = .ok (.invokevirtual 295, 3) := fdd_d (by decide +kernel)
set_option maxRecDepth 100000 in
theorem xd_dcce1e58 : decode (ia_code 46) 11 = .ok (.ifCond .eq 13, 3) := fdd_d (by decide +kernel)
set_option maxRecDepth 100000 in
theorem xd_903ce1f9 : decode (ia_code 46) 24 = .ok (.iconst (-1), 1) := fdd_d (by decide +kernel)
set_option maxRecDepth 100000 in
theorem xd_029f2dd9 : decode (ia_code 46) 25 = .ok (.ireturn, 1) := fdd_d (by decide +kernel)
set_option maxRecDepth 100000 in
theorem xr_be2305bb : ia_ret 46 = some .int := by decide +kernel
set_option maxRecDepth 100000 in
theorem xd_ec34d347 : decode (ia_code 46) 14 = .ok (.aload_n 0, 1) := fdd_d (by decide +kernel)
set_option maxRecDepth 100000 in
theorem xd_6ff2b064 : decode (ia_code 46) 15 = .ok (.getfield 56, 3) := fdd_d (by decide +kernel)
set_option maxRecDepth 100000 in
theorem xd_3acaf106 : decode (ia_code 46) 18 = .ok (.getfield 299, 3) := fdd_d (by decide +kernel)
set_option maxRecDepth 100000 in
theorem xf_3f2be131 : wk_gf 46 299 47 2 0 = true := by decide +kernel
set_option maxRecDepth 100000 in
theorem xd_e4c3a03a : decode (ia_code 46) 21 = .ok (.goto 4, 3) := fdd_d (by decide +kernel)
set_option maxRecDepth 100000 in
theorem xm_c87a0172 : ia_maxL 46 = 1 := by decide +kernel
set_option maxRecDepth 100000 in
theorem xd_d52c1710 : decode (ia_code 173) 2 = .ok (.iload_n 2, 1) := fdd_d (by decide +kernel)
set_option maxRecDepth 100000 in
theorem xd_53fc5479 : decode (ia_code 173) 3 = .ok (.aload_n 1, 1) := fdd_d (by decide +kernel)
set_option maxRecDepth 100000 in
theorem xd_c95e73fd : decode (ia_code 173) 4 = .ok (.getfield 30, 3) := fdd_d (by decide +kernel)
set_option maxRecDepth 100000 in
theorem xf_23388e60 : wk_gf 173 30 33 0 (4 + 3) = true := by decide +kernel
set_option maxRecDepth 100000 in
theorem xd_0933636e : decode (ia_code 173) 7 = .ok (.getfield 34, 3) := fdd_d (by decide +kernel)
set_option maxRecDepth 100000 in
theorem xf_52c77fd4 : wk_gf 173 34 4 3 0 = true := by decide +kernel
set_option maxRecDepth 100000 in
theorem xd_e6fb55a5 : decode (ia_code 173) 10 = .ok (.if_icmp .ge 63, 3) := fdd_d (by decide +kernel)
set_option maxRecDepth 100000 in
theorem xd_0f6053b2 : decode (ia_code 173) 73 = .ok (.return_, 1) := fdd_d (by decide +kernel)
set_option maxRecDepth 100000 in
theorem xr_01e6ff95 : ia_ret 173 = none := by decide +kernel
set_option maxRecDepth 100000 in
theorem xd_4445ab37 : decode (ia_code 173) 13 = .ok (.aload_n 0, 1) := fdd_d (by decide +kernel)
set_option maxRecDepth 100000 in
theorem xd_0c4050fe : decode (ia_code 173) 14 = .ok (.bipush 8, 2) := fdd_d (by decide +kernel)
set_option maxRecDepth 100000 in
theorem xs_172_85401614 {a1 : Int32} {w : cm_W} (h1 : 8 ≤ a1.toInt ∧ a1.toInt ≤ 8) (hG : sv_w sg w) : ∃ x : Int32, ∃ w' : cm_W, cm_C 1 172 [.inr (.inr (some 120)), .inl a1] w (some (.inl x), w') ∧ sv_w sg w' ∧ (∀ k i, ¬ ((k = 120 ∧ i = 0)) → w'.1 k i = w.1 k i ∧ w'.2 k i = w.2 k i) ∧ ((0 ≤ x.toInt ∧ x.toInt ≤ 7)) := by
  obtain ⟨r, w', hC, hG', hF, q, hq, hr, hp, hs⟩ := wk_use (d := 1) sm_172_85401614_ok (by decide) (as := [.inr (.inr (some 120)), .inl a1]) (w := w) ⟨rfl, hb_mk (lo := 2147483656) (hi := 2147483656) (by have := h1.1; omega) (by have := h1.2; omega), trivial⟩ (fun f hf => by
    cases hf) hG
  have hfr : ∀ k i, ¬ ((k = 120 ∧ i = 0)) → w'.1 k i = w.1 k i ∧ w'.2 k i = w.2 k i := fun k i hki => hF k i (fun ⟨r, z, z1, z2, z3⟩ => by
    simp only [sm_172_85401614, List.mem_cons, List.not_mem_nil, or_false] at z
    rcases z with rfl
    all_goals (simp only at z1 z2 z3; omega))
  simp only [sm_172_85401614, List.mem_cons, List.not_mem_nil, or_false] at hq
  rcases hq with rfl
  · obtain ⟨x, rfl, hx⟩ := wk_int hr
    have hx := hb_in hx
    exact ⟨x, w', hC, hG', hfr, ⟨by omega, by omega⟩⟩
set_option maxRecDepth 100000 in
theorem xl_f20475b3 : ia_pl (ia_cls 173) 39 = some (1, 172, 0, 0, 1204) := by decide +kernel
set_option maxRecDepth 100000 in
theorem xn_bebb8209 : ia_na 172 = 2 := by decide +kernel
set_option maxRecDepth 100000 in
theorem xc_0bad7a70 : ia_mc 172 = 0 ∧ ia_ms 172 = 0 := ⟨by decide +kernel, by decide +kernel⟩
set_option maxRecDepth 100000 in
theorem xv_3c3d31fc : cm_rcv 172 [.inr (.inr (some 120))] = true := by decide +kernel
set_option maxRecDepth 100000 in
theorem xd_298a549f : decode (ia_code 173) 16 = .ok (.invokevirtual 39, 3) := fdd_d (by decide +kernel)
set_option maxRecDepth 100000 in
theorem xd_541e6293 : decode (ia_code 173) 19 = .ok (.istore_n 3, 1) := fdd_d (by decide +kernel)
set_option maxRecDepth 100000 in
theorem xm_6102cc9e : ia_maxL 173 = 5 := by decide +kernel
set_option maxRecDepth 100000 in
theorem xd_771d929f : decode (ia_code 173) 20 = .ok (.iload_n 3, 1) := fdd_d (by decide +kernel)
set_option maxRecDepth 100000 in
theorem xd_2cbd2a97 : decode (ia_code 173) 21 = .ok (.ifCond .ne 36, 3) := fdd_d (by decide +kernel)
set_option maxRecDepth 100000 in
theorem xd_30bc3d46 : decode (ia_code 173) 57 = .ok (.iload_n 3, 1) := fdd_d (by decide +kernel)
set_option maxRecDepth 100000 in
theorem xd_04b07926 : decode (ia_code 173) 58 = .ok (.iconst 1, 1) := fdd_d (by decide +kernel)
set_option maxRecDepth 100000 in
theorem xd_00284ef0 : decode (ia_code 173) 59 = .ok (.if_icmp .ne 8, 3) := fdd_d (by decide +kernel)
set_option maxRecDepth 100000 in
theorem xd_9ca95a52 : decode (ia_code 173) 67 = .ok (.iinc 2 1, 3) := fdd_d (by decide +kernel)
set_option maxRecDepth 100000 in
theorem xd_125bf342 : decode (ia_code 173) 70 = .ok (.goto (-68), 3) := fdd_d (by decide +kernel)
set_option maxRecDepth 100000 in
theorem xd_d34e5f24 : decode (ia_code 173) 62 = .ok (.aload_n 1, 1) := fdd_d (by decide +kernel)
set_option maxRecDepth 100000 in
theorem xd_559e1c4d : decode (ia_code 173) 63 = .ok (.iload_n 2, 1) := fdd_d (by decide +kernel)
set_option maxRecDepth 100000 in
theorem xl_0b7b5ed0 : ia_pl (ia_cls 173) 54 = some (1, 213, 0, 0, 1211) := by decide +kernel
set_option maxRecDepth 100000 in
theorem xd_57352f14 : decode (ia_code 173) 64 = .ok (.invokevirtual 54, 3) := fdd_d (by decide +kernel)
set_option maxRecDepth 100000 in
theorem xd_6ae29ab1 : decode (ia_code 173) 24 = .ok (.aload_n 0, 1) := fdd_d (by decide +kernel)
set_option maxRecDepth 100000 in
theorem xd_ccf159d5 : decode (ia_code 173) 25 = .ok (.aload_n 1, 1) := fdd_d (by decide +kernel)
set_option maxRecDepth 100000 in
theorem xd_4ee02953 : decode (ia_code 173) 26 = .ok (.getfield 30, 3) := fdd_d (by decide +kernel)
set_option maxRecDepth 100000 in
theorem xg_bf82035f : sv_g sg 4 4 = (2147483648, 2147483652) := by decide +kernel
set_option maxRecDepth 100000 in
theorem xd_f61e0c24 : decode (ia_code 173) 29 = .ok (.getfield 43, 3) := fdd_d (by decide +kernel)
set_option maxRecDepth 100000 in
theorem xf_4ed7c177 : wk_gf 173 43 4 4 0 = true := by decide +kernel
set_option maxRecDepth 100000 in
theorem xs_172_57044ed5 {a1 : Int32} {w : cm_W} (h1 : 0 ≤ a1.toInt ∧ a1.toInt ≤ 4) (hG : sv_w sg w) : ∃ x : Int32, ∃ w' : cm_W, cm_C 1 172 [.inr (.inr (some 120)), .inl a1] w (some (.inl x), w') ∧ sv_w sg w' ∧ (∀ k i, ¬ ((k = 120 ∧ i = 0)) → w'.1 k i = w.1 k i ∧ w'.2 k i = w.2 k i) ∧ ((0 ≤ x.toInt ∧ x.toInt ≤ 3)) := by
  obtain ⟨r, w', hC, hG', hF, q, hq, hr, hp, hs⟩ := wk_use (d := 1) sm_172_57044ed5_ok (by decide) (as := [.inr (.inr (some 120)), .inl a1]) (w := w) ⟨rfl, hb_mk (lo := 2147483648) (hi := 2147483652) (by have := h1.1; omega) (by have := h1.2; omega), trivial⟩ (fun f hf => by
    cases hf) hG
  have hfr : ∀ k i, ¬ ((k = 120 ∧ i = 0)) → w'.1 k i = w.1 k i ∧ w'.2 k i = w.2 k i := fun k i hki => hF k i (fun ⟨r, z, z1, z2, z3⟩ => by
    simp only [sm_172_57044ed5, List.mem_cons, List.not_mem_nil, or_false] at z
    rcases z with rfl
    all_goals (simp only at z1 z2 z3; omega))
  simp only [sm_172_57044ed5, List.mem_cons, List.not_mem_nil, or_false] at hq
  rcases hq with rfl
  · obtain ⟨x, rfl, hx⟩ := wk_int hr
    have hx := hb_in hx
    exact ⟨x, w', hC, hG', hfr, ⟨by omega, by omega⟩⟩
set_option maxRecDepth 100000 in
theorem xd_c5c6091d : decode (ia_code 173) 32 = .ok (.invokevirtual 39, 3) := fdd_d (by decide +kernel)
set_option maxRecDepth 100000 in
theorem xd_93bd3b5c : decode (ia_code 173) 35 = .ok (.istore 4, 2) := fdd_d (by decide +kernel)
set_option maxRecDepth 100000 in
theorem xd_a042ef1b : decode (ia_code 173) 37 = .ok (.aload_n 1, 1) := fdd_d (by decide +kernel)
set_option maxRecDepth 100000 in
theorem xd_cbe19d2e : decode (ia_code 173) 38 = .ok (.iload_n 2, 1) := fdd_d (by decide +kernel)
set_option maxRecDepth 100000 in
theorem xd_c1c294f6 : decode (ia_code 173) 39 = .ok (.iload 4, 2) := fdd_d (by decide +kernel)
set_option maxRecDepth 100000 in
theorem xl_bcac81c2 : ia_pl (ia_cls 173) 46 = some (1, 216, 0, 0, 1209) := by decide +kernel
set_option maxRecDepth 100000 in
theorem xd_3685115b : decode (ia_code 173) 41 = .ok (.invokevirtual 46, 3) := fdd_d (by decide +kernel)
set_option maxRecDepth 100000 in
theorem xd_e4440076 : decode (ia_code 173) 44 = .ok (.ifCond .ne 10, 3) := fdd_d (by decide +kernel)
set_option maxRecDepth 100000 in
theorem xd_4a4973bb : decode (ia_code 173) 54 = .ok (.goto 13, 3) := fdd_d (by decide +kernel)
set_option maxRecDepth 100000 in
theorem xd_915ad86c : decode (ia_code 173) 47 = .ok (.aload_n 1, 1) := fdd_d (by decide +kernel)
set_option maxRecDepth 100000 in
theorem xd_faf9aa59 : decode (ia_code 173) 48 = .ok (.iload_n 2, 1) := fdd_d (by decide +kernel)
set_option maxRecDepth 100000 in
theorem xd_a41baab6 : decode (ia_code 173) 49 = .ok (.iload 4, 2) := fdd_d (by decide +kernel)
set_option maxRecDepth 100000 in
theorem xl_d801ec36 : ia_pl (ia_cls 173) 50 = some (1, 212, 0, 0, 1210) := by decide +kernel
set_option maxRecDepth 100000 in
theorem xd_7c7edf8f : decode (ia_code 173) 51 = .ok (.invokevirtual 50, 3) := fdd_d (by decide +kernel)
set_option maxRecDepth 100000 in
theorem xd_3632bdfe : decode (ia_code 173) 0 = .ok (.iconst 0, 1) := fdd_d (by decide +kernel)
set_option maxRecDepth 100000 in
theorem xd_e15c7150 : decode (ia_code 173) 1 = .ok (.istore_n 2, 1) := fdd_d (by decide +kernel)
set_option maxRecDepth 100000 in
theorem xg_edd1578a : sv_g sg 4 3 = (2147483648, 2147483654) := by decide +kernel
set_option maxRecDepth 100000 in
theorem xd_5b324a87 : decode (ia_code 175) 8 = .ok (.iload 4, 2) := fdd_d (by decide +kernel)
set_option maxRecDepth 100000 in
theorem xd_ae3a4fc0 : decode (ia_code 175) 10 = .ok (.iload_n 2, 1) := fdd_d (by decide +kernel)
set_option maxRecDepth 100000 in
theorem xd_7f20e530 : decode (ia_code 175) 11 = .ok (.if_icmp .ge 29, 3) := fdd_d (by decide +kernel)
set_option maxRecDepth 100000 in
theorem xd_75e84cf8 : decode (ia_code 175) 40 = .ok (.iload 4, 2) := fdd_d (by decide +kernel)
set_option maxRecDepth 100000 in
theorem xd_d05ff320 : decode (ia_code 175) 42 = .ok (.ireturn, 1) := fdd_d (by decide +kernel)
set_option maxRecDepth 100000 in
theorem xr_130b5013 : ia_ret 175 = some .int := by decide +kernel
set_option maxRecDepth 100000 in
theorem xd_b3c547ee : decode (ia_code 175) 14 = .ok (.aload_n 1, 1) := fdd_d (by decide +kernel)
set_option maxRecDepth 100000 in
theorem xl_25caccd5 : ia_pl (ia_cls 175) 14 = some (1, 76, 0, 0, 1199) := by decide +kernel
set_option maxRecDepth 100000 in
theorem xd_037ef289 : decode (ia_code 175) 15 = .ok (.invokevirtual 14, 3) := fdd_d (by decide +kernel)
set_option maxRecDepth 100000 in
theorem xd_9ae1e7f8 : decode (ia_code 175) 18 = .ok (.ifCond .ne 22, 3) := fdd_d (by decide +kernel)
set_option maxRecDepth 100000 in
theorem xd_4d948c31 : decode (ia_code 175) 21 = .ok (.aload_n 0, 1) := fdd_d (by decide +kernel)
set_option maxRecDepth 100000 in
theorem xd_06119cbc : decode (ia_code 175) 22 = .ok (.aload_n 1, 1) := fdd_d (by decide +kernel)
set_option maxRecDepth 100000 in
theorem xl_4cf3cc65 : ia_pl (ia_cls 175) 20 = some (1, 173, 0, 0, 1200) := by decide +kernel
set_option maxRecDepth 100000 in
theorem xn_83dbabb9 : ia_na 173 = 2 := by decide +kernel
set_option maxRecDepth 100000 in
theorem xc_adbeb914 : ia_mc 173 = 0 ∧ ia_ms 173 = 0 := ⟨by decide +kernel, by decide +kernel⟩
set_option maxRecDepth 100000 in
theorem xv_0acfa10f : cm_rcv 173 [.inr (.inr (some 120))] = true := by decide +kernel
set_option maxRecDepth 100000 in
theorem xd_ea0055a4 : decode (ia_code 175) 23 = .ok (.invokevirtual 20, 3) := fdd_d (by decide +kernel)
set_option maxRecDepth 100000 in
theorem xd_064d3d2f : decode (ia_code 175) 26 = .ok (.aload_n 1, 1) := fdd_d (by decide +kernel)
set_option maxRecDepth 100000 in
theorem xs_174_4d1d0ea9 {w : cm_W} (hG : sv_w sg w) : ∃ w' : cm_W, cm_C 5 174 [.inr (.inr (some 33))] w (none, w') ∧ sv_w sg w' ∧ (∀ k i, ¬ ((k = 38 ∧ 0 ≤ i ∧ i ≤ 5)) → w'.1 k i = w.1 k i ∧ w'.2 k i = w.2 k i) ∧ ((True)) := by
  obtain ⟨r, w', hC, hG', hF, q, hq, hr, hp, hs⟩ := wk_use (d := 5) sm_174_4d1d0ea9_ok (by decide) (as := [.inr (.inr (some 33))]) (w := w) ⟨rfl, trivial⟩ (fun f hf => by
    cases hf) hG
  have hfr : ∀ k i, ¬ ((k = 38 ∧ 0 ≤ i ∧ i ≤ 5)) → w'.1 k i = w.1 k i ∧ w'.2 k i = w.2 k i := fun k i hki => hF k i (fun ⟨r, z, z1, z2, z3⟩ => by
    simp only [sm_174_4d1d0ea9, List.mem_cons, List.not_mem_nil, or_false] at z
    rcases z with rfl
    all_goals (simp only at z1 z2 z3; omega))
  simp only [sm_174_4d1d0ea9, List.mem_cons, List.not_mem_nil, or_false] at hq
  rcases hq with rfl
  · obtain rfl : r = none := by
      match r, hr with
      | none, _ => rfl
    exact ⟨w', hC, hG', hfr, (trivial)⟩
set_option maxRecDepth 100000 in
theorem xl_8c2ad301 : ia_pl (ia_cls 175) 24 = some (1, 174, 1, 0, 1212) := by decide +kernel
set_option maxRecDepth 100000 in
theorem xn_a8f22613 : ia_na 174 = 1 := by decide +kernel
set_option maxRecDepth 100000 in
theorem xc_6927fdaa : ia_mc 174 = 0 ∧ ia_ms 174 = 0 := ⟨by decide +kernel, by decide +kernel⟩
set_option maxRecDepth 100000 in
theorem xd_f0e6241f : decode (ia_code 175) 27 = .ok (.invokestatic 24, 3) := fdd_d (by decide +kernel)
set_option maxRecDepth 100000 in
theorem xd_6aa22a72 : decode (ia_code 175) 30 = .ok (.aload_n 1, 1) := fdd_d (by decide +kernel)
set_option maxRecDepth 100000 in
theorem xs_78_4d1d0ea9 {w : cm_W} (hG : sv_w sg w) : ∃ w' : cm_W, cm_C 3 78 [.inr (.inr (some 33))] w (none, w') ∧ sv_w sg w' ∧ (∀ k i, ¬ ((k = 33 ∧ i = 1) ∨ (k = 33 ∧ i = 3) ∨ (k = 34 ∧ 0 ≤ i ∧ i ≤ 5) ∨ (k = 35 ∧ 0 ≤ i ∧ i ≤ 5) ∨ (k = 39 ∧ 0 ≤ i ∧ i ≤ 9)) → w'.1 k i = w.1 k i ∧ w'.2 k i = w.2 k i) ∧ ((True)) := by
  obtain ⟨r, w', hC, hG', hF, q, hq, hr, hp, hs⟩ := wk_use (d := 3) sm_78_4d1d0ea9_ok (by decide) (as := [.inr (.inr (some 33))]) (w := w) ⟨rfl, trivial⟩ (fun f hf => by
    cases hf) hG
  have hfr : ∀ k i, ¬ ((k = 33 ∧ i = 1) ∨ (k = 33 ∧ i = 3) ∨ (k = 34 ∧ 0 ≤ i ∧ i ≤ 5) ∨ (k = 35 ∧ 0 ≤ i ∧ i ≤ 5) ∨ (k = 39 ∧ 0 ≤ i ∧ i ≤ 9)) → w'.1 k i = w.1 k i ∧ w'.2 k i = w.2 k i := fun k i hki => hF k i (fun ⟨r, z, z1, z2, z3⟩ => by
    simp only [sm_78_4d1d0ea9, List.mem_cons, List.not_mem_nil, or_false] at z
    rcases z with rfl | rfl | rfl | rfl | rfl
    all_goals (simp only at z1 z2 z3; omega))
  simp only [sm_78_4d1d0ea9, List.mem_cons, List.not_mem_nil, or_false] at hq
  rcases hq with rfl
  · obtain rfl : r = none := by
      match r, hr with
      | none, _ => rfl
    exact ⟨w', hC, hG', hfr, (trivial)⟩
set_option maxRecDepth 100000 in
theorem xl_cba226c6 : ia_pl (ia_cls 175) 27 = some (1, 78, 0, 0, 1217) := by decide +kernel
set_option maxRecDepth 100000 in
theorem xn_90c3fe73 : ia_na 78 = 1 := by decide +kernel
set_option maxRecDepth 100000 in
theorem xc_ee6cbcb9 : ia_mc 78 = 0 ∧ ia_ms 78 = 0 := ⟨by decide +kernel, by decide +kernel⟩
set_option maxRecDepth 100000 in
theorem xv_1234c5ff : cm_rcv 78 [.inr (.inr (some 33))] = true := by decide +kernel
set_option maxRecDepth 100000 in
theorem xd_2e06a775 : decode (ia_code 175) 31 = .ok (.invokevirtual 27, 3) := fdd_d (by decide +kernel)
set_option maxRecDepth 100000 in
theorem xd_62f054de : decode (ia_code 175) 34 = .ok (.iinc 4 1, 3) := fdd_d (by decide +kernel)
set_option maxRecDepth 100000 in
theorem xm_ee42393e : ia_maxL 175 = 5 := by decide +kernel
set_option maxRecDepth 100000 in
theorem xd_e2517736 : decode (ia_code 175) 37 = .ok (.goto (-29), 3) := fdd_d (by decide +kernel)
set_option maxRecDepth 100000 in
theorem xd_27a79945 : decode (ia_code 175) 0 = .ok (.aload_n 0, 1) := fdd_d (by decide +kernel)
set_option maxRecDepth 100000 in
theorem xd_a177da2c : decode (ia_code 175) 1 = .ok (.iload_n 3, 1) := fdd_d (by decide +kernel)
set_option maxRecDepth 100000 in
theorem xd_9cfd3bf6 : decode (ia_code 175) 2 = .ok (.putfield 7, 3) := fdd_d (by decide +kernel)
set_option maxRecDepth 100000 in
theorem xf_841bde2f : wk_pf 175 7 120 0 0 = true := by decide +kernel
set_option maxRecDepth 100000 in
theorem xg_7b6d1cda : sv_g sg 120 0 = sv_top := by decide +kernel
set_option maxRecDepth 100000 in
theorem xd_16602698 : decode (ia_code 175) 5 = .ok (.iconst 0, 1) := fdd_d (by decide +kernel)
set_option maxRecDepth 100000 in
theorem xd_9a7543a8 : decode (ia_code 175) 6 = .ok (.istore 4, 2) := fdd_d (by decide +kernel)
set_option maxRecDepth 100000 in
theorem xd_67327c47 : decode (ia_code 8) 0 = .ok (.iload_n 1, 1) := fdd_d (by decide +kernel)
set_option maxRecDepth 100000 in
theorem xd_83ffe959 : decode (ia_code 8) 1 = .ok (.iconst 1, 1) := fdd_d (by decide +kernel)
set_option maxRecDepth 100000 in
theorem xd_d76a82a0 : decode (ia_code 8) 2 = .ok (.if_icmp .lt 19, 3) := fdd_d (by decide +kernel)
set_option maxRecDepth 100000 in
theorem xd_ff8b1429 : decode (ia_code 8) 21 = .ok (.iconst (-1), 1) := fdd_d (by decide +kernel)
set_option maxRecDepth 100000 in
theorem xd_56f0dcd1 : decode (ia_code 8) 22 = .ok (.ireturn, 1) := fdd_d (by decide +kernel)
set_option maxRecDepth 100000 in
theorem xr_45ef3732 : ia_ret 8 = some .int := by decide +kernel
set_option maxRecDepth 100000 in
theorem xd_fc1d3700 : decode (ia_code 8) 5 = .ok (.iload_n 1, 1) := fdd_d (by decide +kernel)
set_option maxRecDepth 100000 in
theorem xd_7686371c : decode (ia_code 8) 6 = .ok (.bipush 60, 2) := fdd_d (by decide +kernel)
set_option maxRecDepth 100000 in
theorem xd_114b160e : decode (ia_code 8) 8 = .ok (.if_icmp .gt 13, 3) := fdd_d (by decide +kernel)
set_option maxRecDepth 100000 in
theorem xd_03c11c43 : decode (ia_code 8) 11 = .ok (.aload_n 0, 1) := fdd_d (by decide +kernel)
set_option maxRecDepth 100000 in
theorem xd_ca862981 : decode (ia_code 8) 12 = .ok (.getfield 25, 3) := fdd_d (by decide +kernel)
set_option maxRecDepth 100000 in
theorem xf_8e16e7a5 : wk_gf 8 25 0 4 (4 + 3) = true := by decide +kernel
set_option maxRecDepth 100000 in
theorem xd_9cb97469 : decode (ia_code 8) 15 = .ok (.getfield 144, 3) := fdd_d (by decide +kernel)
set_option maxRecDepth 100000 in
theorem xf_b38a6573 : wk_gf 8 144 4 4 0 = true := by decide +kernel
set_option maxRecDepth 100000 in
theorem xd_48ee3d6c : decode (ia_code 8) 18 = .ok (.ifCond .ne 5, 3) := fdd_d (by decide +kernel)
set_option maxRecDepth 100000 in
theorem xd_b6496682 : decode (ia_code 8) 23 = .ok (.aload_n 0, 1) := fdd_d (by decide +kernel)
set_option maxRecDepth 100000 in
theorem xd_c2f33112 : decode (ia_code 8) 24 = .ok (.getfield 46, 3) := fdd_d (by decide +kernel)
set_option maxRecDepth 100000 in
theorem xf_d922ccc4 : wk_gf 8 46 0 7 (33 + 3) = true := by decide +kernel
set_option maxRecDepth 100000 in
theorem xl_e2f8caed : ia_pl (ia_cls 8) 288 = some (1, 76, 0, 0, 966) := by decide +kernel
set_option maxRecDepth 100000 in
theorem xd_94f4cf66 : decode (ia_code 8) 27 = .ok (.invokevirtual 288, 3) := fdd_d (by decide +kernel)
set_option maxRecDepth 100000 in
theorem xd_0e2482d9 : decode (ia_code 8) 30 = .ok (.ifCond .eq 5, 3) := fdd_d (by decide +kernel)
set_option maxRecDepth 100000 in
theorem xd_daa671df : decode (ia_code 8) 35 = .ok (.aload_n 0, 1) := fdd_d (by decide +kernel)
set_option maxRecDepth 100000 in
theorem xd_7ed4627d : decode (ia_code 8) 36 = .ok (.getfield 56, 3) := fdd_d (by decide +kernel)
set_option maxRecDepth 100000 in
theorem xf_2a5a90c4 : wk_gf 8 56 0 9 (47 + 3) = true := by decide +kernel
set_option maxRecDepth 100000 in
theorem xd_da43936a : decode (ia_code 8) 39 = .ok (.aload_n 0, 1) := fdd_d (by decide +kernel)
set_option maxRecDepth 100000 in
theorem xd_0690a658 : decode (ia_code 8) 40 = .ok (.getfield 46, 3) := fdd_d (by decide +kernel)
set_option maxRecDepth 100000 in
theorem xl_c497b8ad : ia_pl (ia_cls 8) 269 = some (1, 55, 0, 0, 917) := by decide +kernel
set_option maxRecDepth 100000 in
theorem xd_e14e33dd : decode (ia_code 8) 43 = .ok (.invokevirtual 269, 3) := fdd_d (by decide +kernel)
set_option maxRecDepth 100000 in
theorem xd_9d5b7f95 : decode (ia_code 8) 46 = .ok (.aload_n 0, 1) := fdd_d (by decide +kernel)
set_option maxRecDepth 100000 in
theorem xd_bf029a8b : decode (ia_code 8) 47 = .ok (.getfield 86, 3) := fdd_d (by decide +kernel)
set_option maxRecDepth 100000 in
theorem xf_78643dae : wk_gf 8 86 0 14 (120 + 3) = true := by decide +kernel
set_option maxRecDepth 100000 in
theorem xd_f1b468c8 : decode (ia_code 8) 50 = .ok (.aload_n 0, 1) := fdd_d (by decide +kernel)
set_option maxRecDepth 100000 in
theorem xd_440690c1 : decode (ia_code 8) 51 = .ok (.getfield 46, 3) := fdd_d (by decide +kernel)
set_option maxRecDepth 100000 in
theorem xd_968b3386 : decode (ia_code 8) 54 = .ok (.iload_n 1, 1) := fdd_d (by decide +kernel)
set_option maxRecDepth 100000 in
theorem xd_4a58a382 : decode (ia_code 8) 55 = .ok (.iload_n 2, 1) := fdd_d (by decide +kernel)
set_option maxRecDepth 100000 in
theorem xl_9c1db0aa : ia_pl (ia_cls 8) 353 = some (1, 175, 0, 0, 1195) := by decide +kernel
set_option maxRecDepth 100000 in
theorem xn_e5f8fb2c : ia_na 175 = 4 := by decide +kernel
set_option maxRecDepth 100000 in
theorem xc_cf343ece : ia_mc 175 = 0 ∧ ia_ms 175 = 0 := ⟨by decide +kernel, by decide +kernel⟩
set_option maxRecDepth 100000 in
theorem xv_bce0c325 : cm_rcv 175 [.inr (.inr (some 120))] = true := by decide +kernel
set_option maxRecDepth 100000 in
theorem xd_4fbf1c59 : decode (ia_code 8) 56 = .ok (.invokevirtual 353, 3) := fdd_d (by decide +kernel)
set_option maxRecDepth 100000 in
theorem xd_6dc56904 : decode (ia_code 8) 59 = .ok (.ireturn, 1) := fdd_d (by decide +kernel)
set_option maxRecDepth 100000 in
theorem xd_4c096bc2 : decode (ia_code 8) 33 = .ok (.iconst 0, 1) := fdd_d (by decide +kernel)
set_option maxRecDepth 100000 in
theorem xd_b7e5bdd7 : decode (ia_code 8) 34 = .ok (.ireturn, 1) := fdd_d (by decide +kernel)
set_option maxRecDepth 100000 in
theorem xm_7d947a86 : ia_maxL 8 = 3 := by decide +kernel
/-- what an act may change -/
def jAf (w0 w : cm_W) : Prop := ∀ k i, ¬ (33 ≤ k ∧ k ≤ 39) → ¬ (47 ≤ k ∧ k ≤ 104) → k ≠ 120 → w.1 k i = w0.1 k i
theorem jAf_rf {a : cm_W} : jAf a a := fun _ _ _ _ _ => rfl
theorem jwe_ok {w : cm_W} {p f : Int32} (hp : 0 ≤ p.toInt ∧ p.toInt ≤ 5) (hf : 0 ≤ f.toInt ∧ f.toInt ≤ 3) (hG : sv_w sg w) : ∃ x : Int32, cm_C 2 216 [.inr (.inr (some 33)), .inl p, .inl f] w (some (.inl x), w) ∧ 0 ≤ x.toInt ∧ x.toInt ≤ 3 ∧ (x.toInt = 0 → (w.1 37 f.toInt.toNat).toInt ≠ 0) := by
  obtain ⟨P, eP⟩ : ∃ P : Nat, p.toInt = (P : Int) := ⟨p.toInt.toNat, by omega⟩
  obtain ⟨F, eF⟩ : ∃ F : Nat, f.toInt = (F : Int) := ⟨f.toInt.toNat, by omega⟩
  rw [show f.toInt.toNat = F from by omega]
  have h : ∃ o, cm_C (1 + 1) 216 [.inr (.inr (some 33)), .inl p, .inl f] w o ∧ (fun o : cm_O => ∃ x : Int32, o = (some (.inl x), w) ∧ 0 ≤ x.toInt ∧ x.toInt ≤ 3 ∧ (x.toInt = 0 → (w.1 37 F).toInt ≠ 0)) o := by
    refine wk_entry (by rw [xm_a7301f5b]; exact Nat.le_of_ble_eq_true rfl) ?_
    rw [show cm_ent 216 [.inr (.inr (some 33)), .inl p, .inl f] = [some (.inr (.inr (some 33))), some (.inl p), some (.inl f)] from by unfold cm_ent; rw [xm_a7301f5b]; rfl]
    refine wk_aload_n xd_6b772e5d rfl ?_
    refine wk_iload_n xd_97673e54 rfl ?_
    obtain ⟨xc1_, hCc1_, hxc1_⟩ := xs_207_ec8c1eaf (w := w) (a1 := p) (by have e9 : (p).toInt = ((P : Int) : Int) := eP; exact ⟨by omega, by omega⟩) hG
    refine wk_call (kd := 0) (i := 83) xd_fed4d78b rfl (wk_cal (as := [.inr (.inr (some 33)), .inl p]) (t := []) xl_d1b065b6 rfl xn_5ab6275c xc_707a1546 rfl rfl xv_3a33a60a rfl) (cm_C_mono (by decide) hCc1_) ?_
    refine wk_if xd_2062ee5f (t := 10) rfl (fun h5_1 => ?_) (fun h5_1 => ?_)
    · have h5_1 := aw_eq_t (a := ((xc1_).toInt : Int)) (b := (0 : Int)) rfl hb_z h5_1
      refine wk_aload_n xd_9dd9872c rfl ?_
      refine wk_getR xf_d6f8e53b xd_2ad80aa0 ?_
      refine wk_iload_n xd_bd46a6b2 rfl ?_
      refine aw_iaload (i := F) xf_cb2da157 eF (by omega) (by omega) xd_7df4f3ba ?_
      refine wk_if xd_07562cf2 (t := 21) rfl (fun h16_2 => ?_) (fun h16_2 => ?_)
      · have h16_2 := aw_ne_t (a := ((w.1 37 F).toInt : Int)) (b := (0 : Int)) rfl hb_z h16_2
        refine wk_aload_n xd_5eb4c4d0 rfl ?_
        refine wk_getR xf_61572595 xd_958ca450 ?_
        refine wk_iload_n xd_398b9f9e rfl ?_
        refine aw_iaload (i := P) xf_34c2cae4 eP (by omega) (by omega) xd_a9433c93 ?_
        refine wk_if xd_291ff4c6 (t := 34) rfl (fun h27_3 => ?_) (fun h27_3 => ?_)
        · have h27_3 := aw_ne_t (a := ((w.1 34 P).toInt : Int)) (b := (0 : Int)) rfl hb_z h27_3
          refine wk_iconst xd_42f6fd45 ?_
          have e : ((Int32.ofInt 0)).toInt = 0 := by decide
          exact wk_ireturn xd_65c60d19 xr_477e1d12 rfl ⟨_, rfl, by omega, by omega, fun h0 => by omega⟩
        · have h27_3 := aw_ne_f (a := ((w.1 34 P).toInt : Int)) (b := (0 : Int)) rfl hb_z h27_3
          refine wk_iconst xd_59f71495 ?_
          refine wk_goto xd_60a9aca1 (t := 35) rfl ?_
          have e : ((Int32.ofInt 3)).toInt = 3 := by decide
          exact wk_ireturn xd_65c60d19 xr_477e1d12 rfl ⟨_, rfl, by omega, by omega, fun h0 => by omega⟩
      · have h16_2 := aw_ne_f (a := ((w.1 37 F).toInt : Int)) (b := (0 : Int)) rfl hb_z h16_2
        refine wk_iconst xd_276aac0c ?_
        have e : ((Int32.ofInt 2)).toInt = 2 := by decide
        exact wk_ireturn xd_ffcdeefc xr_477e1d12 rfl ⟨_, rfl, by omega, by omega, fun h0 => by omega⟩
    · have h5_1 := aw_eq_f (a := ((xc1_).toInt : Int)) (b := (0 : Int)) rfl hb_z h5_1
      refine wk_iconst xd_606d98c9 ?_
      have e : ((Int32.ofInt 1)).toInt = 1 := by decide
      exact wk_ireturn xd_44095fca xr_477e1d12 rfl ⟨_, rfl, by omega, by omega, fun h0 => by omega⟩
  obtain ⟨o, hC, x, rfl, a⟩ := h
  exact ⟨x, hC, a⟩
theorem jtp_ok {w : cm_W} {p f : Int32} (hp : 0 ≤ p.toInt ∧ p.toInt ≤ 5) (hf : 0 ≤ f.toInt ∧ f.toInt ≤ 3) (hG : sv_w sg w) : ∃ w' : cm_W, cm_C 1 212 [.inr (.inr (some 33)), .inl p, .inl f] w (none, w') ∧ sv_w sg w' ∧ (∀ k i, k ≠ 34 → k ≠ 36 → k ≠ 37 → w'.1 k i = w.1 k i) ∧ (∀ g, g ≠ f.toInt.toNat → w'.1 37 g = w.1 37 g) ∧ w'.1 37 f.toInt.toNat = w.1 37 f.toInt.toNat - Int32.ofInt 1 := by
  obtain ⟨P, eP⟩ : ∃ P : Nat, p.toInt = (P : Int) := ⟨p.toInt.toNat, by omega⟩
  obtain ⟨F, eF⟩ : ∃ F : Nat, f.toInt = (F : Int) := ⟨f.toInt.toNat, by omega⟩
  rw [show f.toInt.toNat = F from by omega]
  have h : ∃ o, cm_C (0 + 1) 212 [.inr (.inr (some 33)), .inl p, .inl f] w o ∧ (fun o : cm_O => ∃ w', o = (none, w') ∧ sv_w sg w' ∧ (∀ k i, k ≠ 34 → k ≠ 36 → k ≠ 37 → w'.1 k i = w.1 k i) ∧ (∀ g, g ≠ F → w'.1 37 g = w.1 37 g) ∧ w'.1 37 F = w.1 37 F - Int32.ofInt 1) o := by
    refine wk_entry (by rw [xm_52b0b99b]; exact Nat.le_of_ble_eq_true rfl) ?_
    rw [show cm_ent 212 [.inr (.inr (some 33)), .inl p, .inl f] = [some (.inr (.inr (some 33))), some (.inl p), some (.inl f)] from by unfold cm_ent; rw [xm_52b0b99b]; rfl]
    refine wk_aload_n xd_41e3b883 rfl ?_
    refine wk_getR xf_2d45afc0 xd_b5215b81 ?_
    refine wk_iload_n xd_617c991d rfl ?_
    refine wk_dup2 xd_15576b40 ?_
    refine aw_iaload (i := F) xf_cb2da157 eF (by omega) (by omega) xd_9e554541 ?_
    refine wk_iconst xd_474aca72 ?_
    refine wk_isub xd_76f7da38 ?_
    refine aw_iastore (i := F) xf_cb2da157 eF (by omega) (by omega) xd_8a323214 ?_
    have hG1_ : sv_w sg (cm_u1 w 37 F ((w.1 37 F) - (Int32.ofInt 1))) := sv_w_u1 hG (by rw [xh_5d5540f8 F (by omega)]; exact sv_in_top _)
    refine wk_aload_n xd_fc98ec69 rfl ?_
    refine wk_getR xf_affbc6fb xd_f63278ae ?_
    refine wk_iload_n xd_9ba7b727 rfl ?_
    refine wk_dup2 xd_c9660a9e ?_
    refine aw_iaload (i := P) xf_549e7faf eP (by omega) (by omega) xd_bb5b202f ?_
    refine wk_iconst xd_81ec3c82 ?_
    refine wk_iadd xd_1d4d129f ?_
    refine aw_iastore (i := P) xf_549e7faf eP (by omega) (by omega) xd_201d702e ?_
    have hG2_ : sv_w sg (cm_u1 (cm_u1 w 37 F ((w.1 37 F) - (Int32.ofInt 1))) 36 P (((cm_u1 w 37 F ((w.1 37 F) - (Int32.ofInt 1))).1 36 P) + (Int32.ofInt 1))) := sv_w_u1 hG1_ (by rw [xh_1be83a15 P (by omega)]; exact sv_in_top _)
    refine wk_aload_n xd_a4864541 rfl ?_
    refine wk_getR xf_0851bbca xd_cb45f90c ?_
    refine wk_iload_n xd_c3b91e0f rfl ?_
    refine wk_iconst xd_e439e58f ?_
    refine wk_aload_n xd_494c373b rfl ?_
    refine wk_getR xf_0851bbca xd_7b78ab5c ?_
    refine wk_iload_n xd_42c0dabb rfl ?_
    refine aw_iaload (i := P) xf_34c2cae4 eP (by omega) (by omega) xd_bedb87c1 ?_
    refine wk_aload_n xd_c835f38f rfl ?_
    refine wk_getR xf_3b916a19 xd_0ea6ff56 ?_
    refine wk_getR xf_10b9a8f9 xd_88770970 ?_
    refine wk_iload_n xd_9eaa0999 rfl ?_
    refine aw_iaload (i := F) xf_8aa6ba27 eF (by omega) (by omega) xd_b25b3adf ?_
    refine wk_isub xd_6c4f2eb1 ?_
    refine aw_max (a := (0 : Int)) (b := ((((cm_u1 (cm_u1 w 37 F ((w.1 37 F) - (Int32.ofInt 1))) 36 P (((cm_u1 w 37 F ((w.1 37 F) - (Int32.ofInt 1))).1 36 P) + (Int32.ofInt 1))).1 34 P) - ((cm_u1 (cm_u1 w 37 F ((w.1 37 F) - (Int32.ofInt 1))) 36 P (((cm_u1 w 37 F ((w.1 37 F) - (Int32.ofInt 1))).1 36 P) + (Int32.ofInt 1))).1 11 F)).toInt : Int)) xl_b5b82956 rfl xd_0289a9ad (show ((Int32.ofInt 0)).toInt = 0 from by decide) rfl (fun v3_ p3_ => ?_)
    refine aw_iastore (i := P) xf_34c2cae4 eP (by omega) (by omega) xd_5c9f8a23 ?_
    have hG4_ : sv_w sg (cm_u1 (cm_u1 (cm_u1 w 37 F ((w.1 37 F) - (Int32.ofInt 1))) 36 P (((cm_u1 w 37 F ((w.1 37 F) - (Int32.ofInt 1))).1 36 P) + (Int32.ofInt 1))) 34 P v3_) := sv_w_u1 hG2_ (by rw [xh_f7d3a48a P (by omega)]; exact sv_in_top _)
    refine wk_return xd_92fa19ab xr_55613d82 ⟨_, rfl, hG4_, fun k i k1 k2 k3 => ?_, fun g hg => ?_, ?_⟩
    · rw [hs_u1_ne (by omega), hs_u1_ne (by omega), hs_u1_ne (by omega)]
    · rw [hs_u1_ne (by omega), hs_u1_ne (by omega), hs_u1_ne (by omega)]
    · rw [hs_u1_ne (by omega), hs_u1_ne (by omega), hs_u1_self]
  obtain ⟨o, hC, w', rfl, a⟩ := h
  exact ⟨w', hC, a⟩
/-- a portion that is there is taken -/
theorem jtp_cl {w : cm_W} {p f : Int32} (hp : 0 ≤ p.toInt ∧ p.toInt ≤ 5) (hf : 0 ≤ f.toInt ∧ f.toInt ≤ 3) (hn : (w.1 37 f.toInt.toNat).toInt ≠ 0) (hc : jCl w) (hG : sv_w sg w) : ∃ w' : cm_W, cm_C 1 212 [.inr (.inr (some 33)), .inl p, .inl f] w (none, w') ∧ sv_w sg w' ∧ (∀ k i, k ≠ 34 → k ≠ 36 → k ≠ 37 → w'.1 k i = w.1 k i) ∧ jCl w' := by
  obtain ⟨w', hC, hG', hF, h1, h2⟩ := jtp_ok (w := w) hp hf hG
  refine ⟨w', hC, hG', hF, ?_⟩
  obtain ⟨c1, c2, c3, c4⟩ := hc
  refine ⟨fun g hg hv => ?_, fun j hj => ?_, jL_eq (hF 131 4 (by omega) (by omega) (by omega)) (fun g _ => hF 149 g (by omega) (by omega) (by omega)) c3, jL_eq (hF 158 4 (by omega) (by omega) (by omega)) (fun g _ => hF 176 g (by omega) (by omega) (by omega)) c4⟩
  · have c := c1 g hg (by rw [← hF 4 4 (by omega) (by omega) (by omega)]; exact hv)
    by_cases e : g = f.toInt.toNat
    · rw [e] at c ⊢
      rw [h2, aw_sub rfl (show (Int32.ofInt 1).toInt = 1 from by decide) (by omega) (by omega)]
      omega
    · rw [h1 g e]
      exact c
  · rw [hF 47 2 (by omega) (by omega) (by omega)] at hj
    rw [hF 47 1 (by omega) (by omega) (by omega)]
    exact jL_eq (hF 4 4 (by omega) (by omega) (by omega)) (fun g _ => hF _ g (by omega) (by omega) (by omega)) (c2 j hj)
/-- eat of the class ends -/
theorem jc_eat {w : cm_W} {a : Int32} {b : Int32} (hc : jCl w) (hG : sv_w sg w) : ∃ x w', cm_C 5 9 [.inr (.inr (some 0)), .inl a, .inl b] w (some (.inl x), w') ∧ sv_w sg w' ∧ jCl w' ∧ jAf w w' := by
  have h : ∃ o, cm_C (4 + 1) 9 [.inr (.inr (some 0)), .inl a, .inl b] w o ∧ (fun o : cm_O => ∃ x w', o = (some (.inl x), w') ∧ sv_w sg w' ∧ jCl w' ∧ jAf w w') o := by
    refine wk_entry (by rw [xm_de90c695]; exact Nat.le_of_ble_eq_true rfl) ?_
    rw [show cm_ent 9 [.inr (.inr (some 0)), .inl a, .inl b] = [some (.inr (.inr (some 0))), some (.inl a), some (.inl b), none] from by unfold cm_ent; rw [xm_de90c695]; rfl]
    refine wk_aload_n xd_e74c200d rfl ?_
    refine wk_iload_n xd_1b5c3004 rfl ?_
    obtain ⟨xc1_, hCc1_, hxc1_⟩ := xs_23_ef2370ea (w := w) (a1 := a) hG
    refine wk_call (kd := 0) (i := 153) xd_b07c252f rfl (wk_cal (as := [.inr (.inr (some 0)), .inl a]) (t := []) xl_7bdd4cec rfl xn_2ed70f6b xc_d265dc1c rfl rfl xv_51e6c652 rfl) (cm_C_mono (by decide) hCc1_) ?_
    refine wk_if xd_9511129e (t := 16) rfl (fun h5_1 => ?_) (fun h5_1 => ?_)
    · have h5_1 := aw_eq_t (a := ((xc1_).toInt : Int)) (b := (0 : Int)) rfl hb_z h5_1
      refine wk_iconst xd_a08bdc5d ?_
      exact wk_ireturn xd_472066ba xr_9879eeb7 rfl ⟨_, _, rfl, hG, hc, jAf_rf⟩
    · have h5_1 := aw_eq_f (a := ((xc1_).toInt : Int)) (b := (0 : Int)) rfl hb_z h5_1
      refine wk_aload_n xd_e7f5632b rfl ?_
      refine wk_iload_n xd_5c4509f2 rfl ?_
      obtain ⟨xc3_, hCc3_, hxc3_⟩ := xs_20_ef2370ea (w := w) (a1 := b) hG
      refine wk_call (kd := 0) (i := 191) xd_4d66e16f rfl (wk_cal (as := [.inr (.inr (some 0)), .inl b]) (t := []) xl_03778a89 rfl xn_697775bb xc_acbd0b8c rfl rfl xv_42ceff21 rfl) (cm_C_mono (by decide) hCc3_) ?_
      refine wk_if xd_d3f01e20 (t := 18) rfl (fun h13_3 => ?_) (fun h13_3 => ?_)
      · have h13_3 := aw_ne_t (a := ((xc3_).toInt : Int)) (b := (0 : Int)) rfl hb_z h13_3
        refine wk_aload_n xd_f687aef0 rfl ?_
        refine wk_getR xf_5807a9e3 xd_219e4c8c ?_
        refine wk_iload_n xd_24d56dca rfl ?_
        refine wk_iload_n xd_f806fdce rfl ?_
        obtain ⟨xw, hCw, hw0, hw1, hw2⟩ := jwe_ok (w := w) (p := a) (f := b) (by have e9 : (a).toInt = ((a).toInt : Int) := rfl; exact ⟨by omega, by omega⟩) (by have e9 : (b).toInt = ((b).toInt : Int) := rfl; exact ⟨by omega, by omega⟩) hG
        refine wk_call (kd := 0) (i := 265) xd_8ad8441c rfl (wk_cal (as := [.inr (.inr (some 33)), .inl a, .inl b]) (t := []) xl_35f83684 rfl xn_db8deddf xc_9c1060a0 rfl rfl xv_fd1b3353 rfl) (cm_C_mono (by decide) hCw) ?_
        refine wk_istore_n xd_8c62baae (by rw [xm_de90c695]; rfl) rfl ?_
        refine wk_iload_n xd_b33aae65 rfl ?_
        refine wk_if xd_ad6728b9 (t := 52) rfl (fun h29_4 => ?_) (fun h29_4 => ?_)
        · have h29_4 := aw_ne_t (a := ((xw).toInt : Int)) (b := (0 : Int)) rfl hb_z h29_4
          refine wk_iload_n xd_6f0d09dd rfl ?_
          exact wk_ireturn xd_0978f101 xr_9879eeb7 rfl ⟨_, _, rfl, hG, hc, jAf_rf⟩
        · have h29_4 := aw_ne_f (a := ((xw).toInt : Int)) (b := (0 : Int)) rfl hb_z h29_4
          refine wk_aload_n xd_c293f230 rfl ?_
          refine wk_getR xf_ab7ff5e3 xd_43e561ac ?_
          refine wk_aload_n xd_c2cf53a3 rfl ?_
          refine wk_getR xf_5807a9e3 xd_7304f8f2 ?_
          obtain ⟨wk, hCk, hGk, hFk, hck⟩ := jke_ok (w := w) hc hG
          refine wk_call (kd := 0) (i := 269) xd_3df81d66 rfl (wk_cal (as := [.inr (.inr (some 47)), .inr (.inr (some 33))]) (t := []) xl_354dbd07 rfl xn_bc92ca73 xc_4468db2a rfl rfl xv_d8d455c0 rfl) (cm_C_mono (by decide) hCk) ?_
          have hfk : jAf w wk := fun k i x1 x2 x3 => (hFk k i (by omega) (by omega)).trans (jAf_rf k i x1 x2 x3)
          refine wk_aload_n xd_68f82f93 rfl ?_
          refine wk_getR xf_5807a9e3 xd_9e2a3587 ?_
          refine wk_iload_n xd_0fc774dd rfl ?_
          refine wk_iload_n xd_3e67d585 rfl ?_
          obtain ⟨wt, hCt, hGt, hFt_, hct⟩ := jtp_cl (w := wk) (p := a) (f := b) (by have e9 : (a).toInt = ((a).toInt : Int) := rfl; exact ⟨by omega, by omega⟩) (by have e9 : (b).toInt = ((b).toInt : Int) := rfl; exact ⟨by omega, by omega⟩) (by rw [hFk 37 _ (by omega) (by omega)]; exact hw2 (by omega)) hck hGk
          refine wk_call (kd := 0) (i := 273) xd_c5cc783b rfl (wk_cal (as := [.inr (.inr (some 33)), .inl a, .inl b]) (t := []) xl_0efd7298 rfl xn_2e0d4b1f xc_69cc67f3 rfl rfl xv_8c912979 rfl) (cm_C_mono (by decide) hCt) ?_
          have hft : jAf w wt := fun k i x1 x2 x3 => (hFt_ k i (by omega) (by omega) (by omega)).trans (hfk k i x1 x2 x3)
          refine wk_iload_n xd_6f0d09dd rfl ?_
          exact wk_ireturn xd_0978f101 xr_9879eeb7 rfl ⟨_, _, rfl, hGt, hct, hft⟩
      · have h13_3 := aw_ne_f (a := ((xc3_).toInt : Int)) (b := (0 : Int)) rfl hb_z h13_3
        refine wk_iconst xd_a08bdc5d ?_
        exact wk_ireturn xd_472066ba xr_9879eeb7 rfl ⟨_, _, rfl, hG, hc, jAf_rf⟩
  obtain ⟨o, hC, x, w', rfl, a⟩ := h
  exact ⟨x, w', hC, a⟩
/-- ail of the class ends -/
theorem jc_ail {w : cm_W} {a : Int32} (hc : jCl w) (hG : sv_w sg w) : ∃ x w', cm_C 5 1 [.inr (.inr (some 0)), .inl a] w (some (.inl x), w') ∧ sv_w sg w' ∧ jCl w' ∧ jAf w w' := by
  have h : ∃ o, cm_C (4 + 1) 1 [.inr (.inr (some 0)), .inl a] w o ∧ (fun o : cm_O => ∃ x w', o = (some (.inl x), w') ∧ sv_w sg w' ∧ jCl w' ∧ jAf w w') o := by
    refine wk_entry (by rw [xm_708418f7]; exact Nat.le_of_ble_eq_true rfl) ?_
    rw [show cm_ent 1 [.inr (.inr (some 0)), .inl a] = [some (.inr (.inr (some 0))), some (.inl a), none] from by unfold cm_ent; rw [xm_708418f7]; rfl]
    refine wk_aload_n xd_b2650db1 rfl ?_
    refine wk_iload_n xd_4e751db8 rfl ?_
    obtain ⟨xc1_, hCc1_, hxc1_⟩ := xs_23_ef2370ea (w := w) (a1 := a) hG
    refine wk_call (kd := 0) (i := 153) xd_4f1faade rfl (wk_cal (as := [.inr (.inr (some 0)), .inl a]) (t := []) xl_98c978b8 rfl xn_2ed70f6b xc_d265dc1c rfl rfl xv_51e6c652 rfl) (cm_C_mono (by decide) hCc1_) ?_
    refine wk_if xd_037165e0 (t := 10) rfl (fun h5_1 => ?_) (fun h5_1 => ?_)
    · have h5_1 := aw_ne_t (a := ((xc1_).toInt : Int)) (b := (0 : Int)) rfl hb_z h5_1
      refine wk_aload_n xd_34bc3b5c rfl ?_
      refine wk_getR xf_8a0a955d xd_a3491a99 ?_
      refine wk_iload_n xd_53836012 rfl ?_
      obtain ⟨xc3_, hCc3_, hxc3_⟩ := xs_215_ec8c1eaf (w := w) (a1 := a) (by have e9 : (a).toInt = ((a).toInt : Int) := rfl; exact ⟨by omega, by omega⟩) hG
      refine wk_call (kd := 0) (i := 276) xd_0b99ac02 rfl (wk_cal (as := [.inr (.inr (some 33)), .inl a]) (t := []) xl_9e538a88 rfl xn_eb2aa799 xc_ad55234d rfl rfl xv_34043bec rfl) (cm_C_mono (by decide) hCc3_) ?_
      refine wk_istore_n xd_6a55c66c (by rw [xm_708418f7]; rfl) rfl ?_
      refine wk_iload_n xd_8fb512a3 rfl ?_
      refine wk_if xd_4b368a4a (t := 42) rfl (fun h20_3 => ?_) (fun h20_3 => ?_)
      · have h20_3 := aw_ne_t (a := ((xc3_).toInt : Int)) (b := (0 : Int)) rfl hb_z h20_3
        refine wk_iload_n xd_11ca93c0 rfl ?_
        exact wk_ireturn xd_325b0676 xr_c27a3dda rfl ⟨_, _, rfl, hG, hc, jAf_rf⟩
      · have h20_3 := aw_ne_f (a := ((xc3_).toInt : Int)) (b := (0 : Int)) rfl hb_z h20_3
        refine wk_aload_n xd_1a47ab49 rfl ?_
        refine wk_getR xf_7972c95d xd_c474fe31 ?_
        refine wk_aload_n xd_1a1b0ada rfl ?_
        refine wk_getR xf_8a0a955d xd_d89ef4d8 ?_
        obtain ⟨wk, hCk, hGk, hFk, hck⟩ := jke_ok (w := w) hc hG
        refine wk_call (kd := 0) (i := 269) xd_41cf4627 rfl (wk_cal (as := [.inr (.inr (some 47)), .inr (.inr (some 33))]) (t := []) xl_d6598953 rfl xn_bc92ca73 xc_4468db2a rfl rfl xv_d8d455c0 rfl) (cm_C_mono (by decide) hCk) ?_
        have hfk : jAf w wk := fun k i x1 x2 x3 => (hFk k i (by omega) (by omega)).trans (jAf_rf k i x1 x2 x3)
        refine wk_aload_n xd_eddb56c0 rfl ?_
        refine wk_getR xf_8a0a955d xd_4dbe1b0d ?_
        refine wk_iload_n xd_8a5d4ea8 rfl ?_
        obtain ⟨wc5_, hCc5_, hGc5_, hFc5_, hxc5_⟩ := xs_213_ec8c1eaf (w := wk) (a1 := a) (by have e9 : (a).toInt = ((a).toInt : Int) := rfl; exact ⟨by omega, by omega⟩) hGk
        refine wk_call (kd := 0) (i := 279) xd_fdacd30a rfl (wk_cal (as := [.inr (.inr (some 33)), .inl a]) (t := []) xl_c8b0b0e1 rfl xn_646a5239 xc_cfdfa497 rfl rfl xv_7d4b2cd3 rfl) (cm_C_mono (by decide) hCc5_) ?_
        have hf6_ : jAf w wc5_ := fun k i x1 x2 x3 => ((hFc5_ k i (by omega)).1).trans (hfk k i x1 x2 x3)
        have hc7_ : jCl wc5_ := jCl_fr (fun k i hs => by unfold jSup at hs; exact (hFc5_ k i (by omega)).1) hck
        refine wk_iload_n xd_11ca93c0 rfl ?_
        exact wk_ireturn xd_325b0676 xr_c27a3dda rfl ⟨_, _, rfl, hGc5_, hc7_, hf6_⟩
    · have h5_1 := aw_ne_f (a := ((xc1_).toInt : Int)) (b := (0 : Int)) rfl hb_z h5_1
      refine wk_iconst xd_6ded780f ?_
      exact wk_ireturn xd_5c730e33 xr_c27a3dda rfl ⟨_, _, rfl, hG, hc, jAf_rf⟩
  obtain ⟨o, hC, x, w', rfl, a⟩ := h
  exact ⟨x, w', hC, a⟩
/-- mend of the class ends -/
theorem jc_mend {w : cm_W} {a : Int32} (hc : jCl w) (hG : sv_w sg w) : ∃ x w', cm_C 5 29 [.inr (.inr (some 0)), .inl a] w (some (.inl x), w') ∧ sv_w sg w' ∧ jCl w' ∧ jAf w w' := by
  have h : ∃ o, cm_C (4 + 1) 29 [.inr (.inr (some 0)), .inl a] w o ∧ (fun o : cm_O => ∃ x w', o = (some (.inl x), w') ∧ sv_w sg w' ∧ jCl w' ∧ jAf w w') o := by
    refine wk_entry (by rw [xm_727d1492]; exact Nat.le_of_ble_eq_true rfl) ?_
    rw [show cm_ent 29 [.inr (.inr (some 0)), .inl a] = [some (.inr (.inr (some 0))), some (.inl a), none] from by unfold cm_ent; rw [xm_727d1492]; rfl]
    refine wk_aload_n xd_5ab45444 rfl ?_
    refine wk_iload_n xd_a6a4444d rfl ?_
    obtain ⟨xc1_, hCc1_, hxc1_⟩ := xs_23_ef2370ea (w := w) (a1 := a) hG
    refine wk_call (kd := 0) (i := 153) xd_8f1f5f00 rfl (wk_cal (as := [.inr (.inr (some 0)), .inl a]) (t := []) xl_20c5240b rfl xn_2ed70f6b xc_d265dc1c rfl rfl xv_51e6c652 rfl) (cm_C_mono (by decide) hCc1_) ?_
    refine wk_if xd_2ad3d06c (t := 10) rfl (fun h5_1 => ?_) (fun h5_1 => ?_)
    · have h5_1 := aw_ne_t (a := ((xc1_).toInt : Int)) (b := (0 : Int)) rfl hb_z h5_1
      refine wk_aload_n xd_f983ec96 rfl ?_
      refine wk_getR xf_3cbe6fa6 xd_8aebaf15 ?_
      refine wk_iload_n xd_9ebcb7d8 rfl ?_
      obtain ⟨xc3_, hCc3_, hxc3_⟩ := xs_218_ec8c1eaf (w := w) (a1 := a) (by have e9 : (a).toInt = ((a).toInt : Int) := rfl; exact ⟨by omega, by omega⟩) hG
      refine wk_call (kd := 0) (i := 282) xd_6ee44731 rfl (wk_cal (as := [.inr (.inr (some 33)), .inl a]) (t := []) xl_1d96ca4d rfl xn_13ba6328 xc_ce53ef9d rfl rfl xv_57401038 rfl) (cm_C_mono (by decide) hCc3_) ?_
      refine wk_istore_n xd_1129d215 (by rw [xm_727d1492]; rfl) rfl ?_
      refine wk_iload_n xd_428ac569 rfl ?_
      refine wk_if xd_670b33ac (t := 42) rfl (fun h20_3 => ?_) (fun h20_3 => ?_)
      · have h20_3 := aw_ne_t (a := ((xc3_).toInt : Int)) (b := (0 : Int)) rfl hb_z h20_3
        refine wk_iload_n xd_dcf5440a rfl ?_
        exact wk_ireturn xd_5bd6c031 xr_61919b38 rfl ⟨_, _, rfl, hG, hc, jAf_rf⟩
      · have h20_3 := aw_ne_f (a := ((xc3_).toInt : Int)) (b := (0 : Int)) rfl hb_z h20_3
        refine wk_aload_n xd_d7787c83 rfl ?_
        refine wk_getR xf_cfc633a6 xd_edd64bbd ?_
        refine wk_aload_n xd_d724dd10 rfl ?_
        refine wk_getR xf_3cbe6fa6 xd_f13c4154 ?_
        obtain ⟨wk, hCk, hGk, hFk, hck⟩ := jke_ok (w := w) hc hG
        refine wk_call (kd := 0) (i := 269) xd_2064b901 rfl (wk_cal (as := [.inr (.inr (some 47)), .inr (.inr (some 33))]) (t := []) xl_6e55d5e0 rfl xn_bc92ca73 xc_4468db2a rfl rfl xv_d8d455c0 rfl) (cm_C_mono (by decide) hCk) ?_
        have hfk : jAf w wk := fun k i x1 x2 x3 => (hFk k i (by omega) (by omega)).trans (jAf_rf k i x1 x2 x3)
        refine wk_aload_n xd_20e4810a rfl ?_
        refine wk_getR xf_3cbe6fa6 xd_641cae81 ?_
        refine wk_iload_n xd_47629962 rfl ?_
        obtain ⟨wc5_, hCc5_, hGc5_, hFc5_, hxc5_⟩ := xs_213_ec8c1eaf (w := wk) (a1 := a) (by have e9 : (a).toInt = ((a).toInt : Int) := rfl; exact ⟨by omega, by omega⟩) hGk
        refine wk_call (kd := 0) (i := 279) xd_9c072c2c rfl (wk_cal (as := [.inr (.inr (some 33)), .inl a]) (t := []) xl_9a605e8b rfl xn_646a5239 xc_cfdfa497 rfl rfl xv_7d4b2cd3 rfl) (cm_C_mono (by decide) hCc5_) ?_
        have hf6_ : jAf w wc5_ := fun k i x1 x2 x3 => ((hFc5_ k i (by omega)).1).trans (hfk k i x1 x2 x3)
        have hc7_ : jCl wc5_ := jCl_fr (fun k i hs => by unfold jSup at hs; exact (hFc5_ k i (by omega)).1) hck
        refine wk_iload_n xd_dcf5440a rfl ?_
        exact wk_ireturn xd_5bd6c031 xr_61919b38 rfl ⟨_, _, rfl, hGc5_, hc7_, hf6_⟩
    · have h5_1 := aw_ne_f (a := ((xc1_).toInt : Int)) (b := (0 : Int)) rfl hb_z h5_1
      refine wk_iconst xd_16916c76 ?_
      exact wk_ireturn xd_d777b7a0 xr_61919b38 rfl ⟨_, _, rfl, hG, hc, jAf_rf⟩
  obtain ⟨o, hC, x, w', rfl, a⟩ := h
  exact ⟨x, w', hC, a⟩
/-- meet of the class ends -/
theorem jc_meet {w : cm_W} {a : Int32} (hc : jCl w) (hG : sv_w sg w) : ∃ x w', cm_C 6 27 [.inr (.inr (some 0)), .inl a] w (some (.inl x), w') ∧ sv_w sg w' ∧ jCl w' ∧ jAf w w' := by
  have h : ∃ o, cm_C (5 + 1) 27 [.inr (.inr (some 0)), .inl a] w o ∧ (fun o : cm_O => ∃ x w', o = (some (.inl x), w') ∧ sv_w sg w' ∧ jCl w' ∧ jAf w w') o := by
    refine wk_entry (by rw [xm_cd4daaf3]; exact Nat.le_of_ble_eq_true rfl) ?_
    rw [show cm_ent 27 [.inr (.inr (some 0)), .inl a] = [some (.inr (.inr (some 0))), some (.inl a), none] from by unfold cm_ent; rw [xm_cd4daaf3]; rfl]
    refine wk_aload_n xd_3043a449 rfl ?_
    refine wk_iload_n xd_cc53b440 rfl ?_
    obtain ⟨xc1_, hCc1_, hxc1_⟩ := xs_22_ef2370ea (w := w) (a1 := a) hG
    refine wk_call (kd := 0) (i := 200) xd_8df4c7bb rfl (wk_cal (as := [.inr (.inr (some 0)), .inl a]) (t := []) xl_cab7562f rfl xn_13b726db xc_f82d916c rfl rfl xv_5f012e83 rfl) (cm_C_mono (by decide) hCc1_) ?_
    refine wk_if xd_156ec557 (t := 10) rfl (fun h5_1 => ?_) (fun h5_1 => ?_)
    · have h5_1 := aw_ne_t (a := ((xc1_).toInt : Int)) (b := (0 : Int)) rfl hb_z h5_1
      refine wk_aload_n xd_875867db rfl ?_
      refine wk_getR xf_5e8e0148 xd_b556ba2e ?_
      refine wk_iload_n xd_e0673c95 rfl ?_
      obtain ⟨xc3_, hCc3_, hxc3_⟩ := xs_217_ec8c1eaf (w := w) (a1 := a) (by have e9 : (a).toInt = ((a).toInt : Int) := rfl; exact ⟨by omega, by omega⟩) hG
      refine wk_call (kd := 0) (i := 209) xd_f3f52f3b rfl (wk_cal (as := [.inr (.inr (some 33)), .inl a]) (t := []) xl_e2603e9b rfl xn_91eaf4f9 xc_3a03a3c4 rfl rfl xv_0cc136f9 rfl) (cm_C_mono (by decide) hCc3_) ?_
      refine wk_istore_n xd_193a34b3 (by rw [xm_cd4daaf3]; rfl) rfl ?_
      refine wk_iload_n xd_3c514e24 rfl ?_
      refine wk_if xd_366407c2 (t := 42) rfl (fun h20_3 => ?_) (fun h20_3 => ?_)
      · have h20_3 := aw_ne_t (a := ((xc3_).toInt : Int)) (b := (0 : Int)) rfl hb_z h20_3
        refine wk_iload_n xd_a22ecf47 rfl ?_
        exact wk_ireturn xd_1c063f20 xr_9b779788 rfl ⟨_, _, rfl, hG, hc, jAf_rf⟩
      · have h20_3 := aw_ne_f (a := ((xc3_).toInt : Int)) (b := (0 : Int)) rfl hb_z h20_3
        refine wk_aload_n xd_a9a3f7ce rfl ?_
        refine wk_getR xf_adf65d48 xd_d26b5e86 ?_
        refine wk_aload_n xd_a9ff565d rfl ?_
        refine wk_getR xf_5e8e0148 xd_ce81546f ?_
        obtain ⟨wk, hCk, hGk, hFk, hck⟩ := jke_ok (w := w) hc hG
        refine wk_call (kd := 0) (i := 269) xd_26f66277 rfl (wk_cal (as := [.inr (.inr (some 47)), .inr (.inr (some 33))]) (t := []) xl_c40ef68b rfl xn_bc92ca73 xc_4468db2a rfl rfl xv_d8d455c0 rfl) (cm_C_mono (by decide) hCk) ?_
        have hfk : jAf w wk := fun k i x1 x2 x3 => (hFk k i (by omega) (by omega)).trans (jAf_rf k i x1 x2 x3)
        refine wk_aload_n xd_5e3f0a47 rfl ?_
        refine wk_getR xf_5e8e0148 xd_5ba1bbba ?_
        refine wk_iload_n xd_39b9122f rfl ?_
        obtain ⟨wc5_, hCc5_, hGc5_, hFc5_, hxc5_⟩ := xs_203_ec8c1eaf (w := wk) (a1 := a) (by have e9 : (a).toInt = ((a).toInt : Int) := rfl; exact ⟨by omega, by omega⟩) hGk
        refine wk_call (kd := 0) (i := 285) xd_ae33a88e rfl (wk_cal (as := [.inr (.inr (some 33)), .inl a]) (t := []) xl_714a0e30 rfl xn_af36819c xc_85a61215 rfl rfl xv_4bb9bc20 rfl) (cm_C_mono (by decide) hCc5_) ?_
        have hf6_ : jAf w wc5_ := fun k i x1 x2 x3 => ((hFc5_ k i (by omega)).1).trans (hfk k i x1 x2 x3)
        have hc7_ : jCl wc5_ := jCl_fr (fun k i hs => by unfold jSup at hs; exact (hFc5_ k i (by omega)).1) hck
        refine wk_iload_n xd_a22ecf47 rfl ?_
        exact wk_ireturn xd_1c063f20 xr_9b779788 rfl ⟨_, _, rfl, hGc5_, hc7_, hf6_⟩
    · have h5_1 := aw_ne_f (a := ((xc1_).toInt : Int)) (b := (0 : Int)) rfl hb_z h5_1
      refine wk_iconst xd_1e828ad0 ?_
      exact wk_ireturn xd_b547d94e xr_9b779788 rfl ⟨_, _, rfl, hG, hc, jAf_rf⟩
  obtain ⟨o, hC, x, w', rfl, a⟩ := h
  exact ⟨x, w', hC, a⟩
/-- hours of the class ends -/
theorem jc_hours {w : cm_W} {a : Int32} (hc : jCl w) (hG : sv_w sg w) : ∃ x w', cm_C 6 15 [.inr (.inr (some 0)), .inl a] w (some (.inl x), w') ∧ sv_w sg w' ∧ jCl w' ∧ jAf w w' := by
  have h : ∃ o, cm_C (5 + 1) 15 [.inr (.inr (some 0)), .inl a] w o ∧ (fun o : cm_O => ∃ x w', o = (some (.inl x), w') ∧ sv_w sg w' ∧ jCl w' ∧ jAf w w') o := by
    refine wk_entry (by rw [xm_461ebbab]; exact Nat.le_of_ble_eq_true rfl) ?_
    rw [show cm_ent 15 [.inr (.inr (some 0)), .inl a] = [some (.inr (.inr (some 0))), some (.inl a)] from by unfold cm_ent; rw [xm_461ebbab]; rfl]
    refine wk_iload_n xd_f1fe3838 rfl ?_
    refine wk_iconst xd_46131813 ?_
    refine wk_icmp xd_90f6a8eb (t := 11) rfl (fun h2_0 => ?_) (fun h2_0 => ?_)
    · have h2_0 := aw_lt_t (a := ((a).toInt : Int)) (b := (1 : Int)) rfl (show ((Int32.ofInt 1)).toInt = 1 from by decide) h2_0
      refine wk_iconst xd_54b6d2b0 ?_
      exact wk_ireturn xd_aa6480db xr_874a0718 rfl ⟨_, _, rfl, hG, hc, jAf_rf⟩
    · have h2_0 := aw_lt_f (a := ((a).toInt : Int)) (b := (1 : Int)) rfl (show ((Int32.ofInt 1)).toInt = 1 from by decide) h2_0
      refine wk_iload_n xd_6ad1737f rfl ?_
      refine wk_bipush xd_e04a7363 ?_
      refine wk_icmp xd_8b353298 (t := 13) rfl (fun h8_1 => ?_) (fun h8_1 => ?_)
      · have h8_1 := aw_le_t (a := ((a).toInt : Int)) (b := (60 : Int)) rfl (show (((Int8.ofInt 60).toInt32)).toInt = 60 from by decide) h8_1
        refine wk_aload_n xd_2e7b6f43 rfl ?_
        refine wk_getR xf_b2587b14 xd_69cef78b ?_
        obtain ⟨xc3_, hCc3_, hxc3_⟩ := xs_76_4d1d0ea9 (w := w) hG
        refine wk_call (kd := 0) (i := 288) xd_1fa4076b rfl (wk_cal (as := [.inr (.inr (some 33))]) (t := []) xl_81b338cb rfl xn_2ff34012 xc_9aee7e58 rfl rfl xv_b86fe694 rfl) (cm_C_mono (by decide) hCc3_) ?_
        refine wk_if xd_5a44a27d (t := 25) rfl (fun h20_3 => ?_) (fun h20_3 => ?_)
        · have h20_3 := aw_eq_t (a := ((xc3_).toInt : Int)) (b := (0 : Int)) rfl hb_z h20_3
          refine wk_aload_n xd_9bafb411 rfl ?_
          refine wk_getR xf_41202714 xd_c0a3ef8b ?_
          refine wk_aload_n xd_9b4a56a4 rfl ?_
          refine wk_getR xf_b2587b14 xd_8739f61f ?_
          obtain ⟨wk, hCk, hGk, hFk, hck⟩ := jke_ok (w := w) hc hG
          refine wk_call (kd := 0) (i := 269) xd_1b94e1fa rfl (wk_cal (as := [.inr (.inr (some 47)), .inr (.inr (some 33))]) (t := []) xl_a7dc4a8b rfl xn_bc92ca73 xc_4468db2a rfl rfl xv_d8d455c0 rfl) (cm_C_mono (by decide) hCk) ?_
          have hfk : jAf w wk := fun k i x1 x2 x3 => (hFk k i (by omega) (by omega)).trans (jAf_rf k i x1 x2 x3)
          refine wk_aload_n xd_6c6fe80b rfl ?_
          refine wk_getR xf_b2587b14 xd_49690ab7 ?_
          refine wk_iload_n xd_d7de57db rfl ?_
          obtain ⟨xc5_, wc5_, hCc5_, hGc5_, hFc5_, hxc5_⟩ := xs_79_b52f6398 (w := wk) (a1 := a) (by have e9 : (a).toInt = ((a).toInt : Int) := rfl; exact ⟨by omega, by omega⟩) hGk
          refine wk_call (kd := 0) (i := 292) xd_3848a109 rfl (wk_cal (as := [.inr (.inr (some 33)), .inl a]) (t := []) xl_ef743d5a rfl xn_34aa8679 xc_c424f1c9 rfl rfl xv_e3eec055 rfl) (cm_C_mono (by decide) hCc5_) ?_
          have hf6_ : jAf w wc5_ := fun k i x1 x2 x3 => ((hFc5_ k i (by omega)).1).trans (hfk k i x1 x2 x3)
          have hc7_ : jCl wc5_ := jCl_fr (fun k i hs => by unfold jSup at hs; exact (hFc5_ k i (by omega)).1) hck
          exact wk_ireturn xd_17d072dd xr_874a0718 rfl ⟨_, _, rfl, hGc5_, hc7_, hf6_⟩
        · have h20_3 := aw_eq_f (a := ((xc3_).toInt : Int)) (b := (0 : Int)) rfl hb_z h20_3
          refine wk_iconst xd_41b6c569 ?_
          exact wk_ireturn xd_6521285d xr_874a0718 rfl ⟨_, _, rfl, hG, hc, jAf_rf⟩
      · have h8_1 := aw_le_f (a := ((a).toInt : Int)) (b := (60 : Int)) rfl (show (((Int8.ofInt 60).toInt32)).toInt = 60 from by decide) h8_1
        refine wk_iconst xd_54b6d2b0 ?_
        exact wk_ireturn xd_aa6480db xr_874a0718 rfl ⟨_, _, rfl, hG, hc, jAf_rf⟩
  obtain ⟨o, hC, x, w', rfl, a⟩ := h
  exact ⟨x, w', hC, a⟩
/-- undo of the class ends -/
theorem jc_undo {w : cm_W} (hc : jCl w) (hG : sv_w sg w) : ∃ x w', cm_C 5 46 [.inr (.inr (some 0))] w (some (.inl x), w') ∧ sv_w sg w' ∧ jCl w' ∧ jAf w w' := by
  have h : ∃ o, cm_C (4 + 1) 46 [.inr (.inr (some 0))] w o ∧ (fun o : cm_O => ∃ x w', o = (some (.inl x), w') ∧ sv_w sg w' ∧ jCl w' ∧ jAf w w') o := by
    refine wk_entry (by rw [xm_c87a0172]; exact Nat.le_of_ble_eq_true rfl) ?_
    rw [show cm_ent 46 [.inr (.inr (some 0))] = [some (.inr (.inr (some 0)))] from by unfold cm_ent; rw [xm_c87a0172]; rfl]
    refine wk_aload_n xd_6b075f19 rfl ?_
    refine wk_getR xf_470854c9 xd_afc48886 ?_
    refine wk_aload_n xd_6b5bfe8a rfl ?_
    refine wk_getR xf_b47008c9 xd_9f2511d8 ?_
    obtain ⟨xb, wb, hCb, hGb, hFb, hcb, hb0, hb1⟩ := jgb_ok (w := w) hc hG
    refine wk_call (kd := 0) (i := 295) xd_e0bea56c rfl (wk_cal (as := [.inr (.inr (some 47)), .inr (.inr (some 33))]) (t := []) xl_9e777a46 rfl xn_81f2e3c3 xc_6e20965a rfl rfl xv_290e506a rfl) (cm_C_mono (by decide) hCb) ?_
    have hfb : jAf w wb := fun k i x1 x2 x3 => hFb k i (by omega) (by omega)
    refine wk_if xd_dcce1e58 (t := 24) rfl (fun h11_0 => ?_) (fun h11_0 => ?_)
    · have h11_0 := aw_eq_t (a := ((xb).toInt : Int)) (b := (0 : Int)) rfl hb_z h11_0
      refine wk_iconst xd_903ce1f9 ?_
      exact wk_ireturn xd_029f2dd9 xr_be2305bb rfl ⟨_, _, rfl, hGb, hcb, hfb⟩
    · have h11_0 := aw_eq_f (a := ((xb).toInt : Int)) (b := (0 : Int)) rfl hb_z h11_0
      refine wk_aload_n xd_ec34d347 rfl ?_
      refine wk_getR xf_470854c9 xd_6ff2b064 ?_
      refine wk_getI xf_3f2be131 xd_3acaf106 ?_
      refine wk_goto xd_e4c3a03a (t := 25) rfl ?_
      exact wk_ireturn xd_029f2dd9 xr_be2305bb rfl ⟨_, _, rfl, hGb, hcb, hfb⟩
  obtain ⟨o, hC, x, w', rfl, a⟩ := h
  exact ⟨x, w', hC, a⟩
theorem jdp_l (w1 : cm_W) (N : Nat) (hN : N ≤ 6) (h43 : (w1.1 4 3).toInt = (N : Int)) (Q : cm_O → Prop) (hk : ∀ w, jAf w1 w → jCl w → sv_w sg w → Q (none, w)) : ∀ (n i : Nat) (z : Int32) (o3 o4 : Option cm_V) (w : cm_W), n + i = N → z.toInt = (i : Int) → jAf w1 w → jCl w → sv_w sg w → cm_X (cm_C 3) 173 2 [some (.inr (.inr (some 120))), some (.inr (.inr (some 33))), some (.inl z), o3, o4] [] w Q := by
  intro n
  induction n with
  | zero =>
    intro i z o3 o4 w hi hz hF hc hG
    have eN : (w.1 4 3).toInt = ((N : Int) : Int) := by rw [hF 4 3 (by omega) (by omega) (by omega)]; exact h43
    refine wk_iload_n xd_d52c1710 rfl ?_
    refine wk_aload_n xd_53fc5479 rfl ?_
    refine wk_getR xf_23388e60 xd_c95e73fd ?_
    refine wk_getI xf_52c77fd4 xd_0933636e ?_
    refine wk_icmp xd_e6fb55a5 (t := 73) rfl (fun h10_0 => ?_) (fun h10_0 => ?_)
    · have h10_0 := aw_ge_t (a := ((i : Int) : Int)) (b := ((N : Int) : Int)) hz (show ((w.1 4 3)).toInt = ((N : Int) : Int) from eN) h10_0
      exact wk_return xd_0f6053b2 xr_01e6ff95 (hk w hF hc hG)
    · have h10_0 := aw_ge_f (a := ((i : Int) : Int)) (b := ((N : Int) : Int)) hz (show ((w.1 4 3)).toInt = ((N : Int) : Int) from eN) h10_0
      exfalso
      omega
  | succ n ih =>
    intro i z o3 o4 w hi hz hF hc hG
    have eN : (w.1 4 3).toInt = ((N : Int) : Int) := by rw [hF 4 3 (by omega) (by omega) (by omega)]; exact h43
    refine wk_iload_n xd_d52c1710 rfl ?_
    refine wk_aload_n xd_53fc5479 rfl ?_
    refine wk_getR xf_23388e60 xd_c95e73fd ?_
    refine wk_getI xf_52c77fd4 xd_0933636e ?_
    refine wk_icmp xd_e6fb55a5 (t := 73) rfl (fun h10_1 => ?_) (fun h10_1 => ?_)
    · have h10_1 := aw_ge_t (a := ((i : Int) : Int)) (b := ((N : Int) : Int)) hz (show ((w.1 4 3)).toInt = ((N : Int) : Int) from eN) h10_1
      exfalso
      omega
    · have h10_1 := aw_ge_f (a := ((i : Int) : Int)) (b := ((N : Int) : Int)) hz (show ((w.1 4 3)).toInt = ((N : Int) : Int) from eN) h10_1
      refine wk_aload_n xd_4445ab37 rfl ?_
      refine wk_bipush xd_0c4050fe ?_
      obtain ⟨xd, wd, hCd, hGd, hFd, hxd⟩ := xs_172_85401614 (w := w) (a1 := ((Int8.ofInt 8).toInt32)) (by have e9 : (((Int8.ofInt 8).toInt32)).toInt = (8 : Int) := (show (((Int8.ofInt 8).toInt32)).toInt = 8 from by decide); exact ⟨by omega, by omega⟩) hG
      refine wk_call (kd := 0) (i := 39) xd_298a549f rfl (wk_cal (as := [.inr (.inr (some 120)), .inl ((Int8.ofInt 8).toInt32)]) (t := []) xl_f20475b3 rfl xn_bebb8209 xc_0bad7a70 rfl rfl xv_3c3d31fc rfl) (cm_C_mono (by decide) hCd) ?_
      have hf3_ : jAf w1 wd := fun k i x1 x2 x3 => ((hFd k i (by omega)).1).trans (hF k i x1 x2 x3)
      have hc4_ : jCl wd := jCl_fr (fun k i hs => by unfold jSup at hs; exact (hFd k i (by omega)).1) hc
      refine wk_istore_n xd_541e6293 (by rw [xm_6102cc9e]; rfl) rfl ?_
      refine wk_iload_n xd_771d929f rfl ?_
      refine wk_if xd_2cbd2a97 (t := 57) rfl (fun h21_4 => ?_) (fun h21_4 => ?_)
      · have h21_4 := aw_ne_t (a := ((xd).toInt : Int)) (b := (0 : Int)) rfl hb_z h21_4
        refine wk_iload_n xd_30bc3d46 rfl ?_
        refine wk_iconst xd_04b07926 ?_
        refine wk_icmp xd_00284ef0 (t := 67) rfl (fun h59_5 => ?_) (fun h59_5 => ?_)
        · have h59_5 := aw_ne_t (a := ((xd).toInt : Int)) (b := (1 : Int)) rfl (show ((Int32.ofInt 1)).toInt = 1 from by decide) h59_5
          refine aw_iinc (a := ((i : Int) : Int)) (b := (1 : Int)) (e := ((i : Int) + 1 : Int)) xd_9ca95a52 (by rw [xm_6102cc9e]; rfl) rfl rfl hz (show ((Int32.ofInt 1)).toInt = 1 from by decide) (by omega) (by omega) (by omega) (fun v7_ p7_ => ?_)
          refine wk_goto xd_125bf342 (t := 2) rfl ?_
          exact ih (i + 1) _ _ _ wd (by omega) (by rw [p7_]; omega) hf3_ hc4_ hGd
        · have h59_5 := aw_ne_f (a := ((xd).toInt : Int)) (b := (1 : Int)) rfl (show ((Int32.ofInt 1)).toInt = 1 from by decide) h59_5
          refine wk_aload_n xd_d34e5f24 rfl ?_
          refine wk_iload_n xd_559e1c4d rfl ?_
          obtain ⟨wt, hCt, hGt, hFt, hxt⟩ := xs_213_ec8c1eaf (w := wd) (a1 := z) (by have e9 : (z).toInt = ((i : Int) : Int) := hz; exact ⟨by omega, by omega⟩) hGd
          refine wk_call (kd := 0) (i := 54) xd_57352f14 rfl (wk_cal (as := [.inr (.inr (some 33)), .inl z]) (t := []) xl_0b7b5ed0 rfl xn_646a5239 xc_cfdfa497 rfl rfl xv_7d4b2cd3 rfl) (cm_C_mono (by decide) hCt) ?_
          have hf8_ : jAf w1 wt := fun k i x1 x2 x3 => ((hFt k i (by omega)).1).trans (hf3_ k i x1 x2 x3)
          have hc9_ : jCl wt := jCl_fr (fun k i hs => by unfold jSup at hs; exact (hFt k i (by omega)).1) hc4_
          refine aw_iinc (a := ((i : Int) : Int)) (b := (1 : Int)) (e := ((i : Int) + 1 : Int)) xd_9ca95a52 (by rw [xm_6102cc9e]; rfl) rfl rfl hz (show ((Int32.ofInt 1)).toInt = 1 from by decide) (by omega) (by omega) (by omega) (fun v10_ p10_ => ?_)
          refine wk_goto xd_125bf342 (t := 2) rfl ?_
          exact ih (i + 1) _ _ _ wt (by omega) (by rw [p10_]; omega) hf8_ hc9_ hGt
      · have h21_4 := aw_ne_f (a := ((xd).toInt : Int)) (b := (0 : Int)) rfl hb_z h21_4
        refine wk_aload_n xd_6ae29ab1 rfl ?_
        refine wk_aload_n xd_ccf159d5 rfl ?_
        refine wk_getR xf_23388e60 xd_4ee02953 ?_
        have g4 := hGd 4 4
        rw [xg_bf82035f] at g4
        have g4 := hb_in g4
        refine wk_getI xf_4ed7c177 xd_f61e0c24 ?_
        obtain ⟨xe, we, hCe, hGe, hFe, hxe⟩ := xs_172_57044ed5 (w := wd) (a1 := (wd.1 4 4)) (by have e9 : ((wd.1 4 4)).toInt = ((wd.1 4 4).toInt : Int) := rfl; exact ⟨by omega, by omega⟩) hGd
        refine wk_call (kd := 0) (i := 39) xd_c5c6091d rfl (wk_cal (as := [.inr (.inr (some 120)), .inl (wd.1 4 4)]) (t := []) xl_f20475b3 rfl xn_bebb8209 xc_0bad7a70 rfl rfl xv_3c3d31fc rfl) (cm_C_mono (by decide) hCe) ?_
        have hf11_ : jAf w1 we := fun k i x1 x2 x3 => ((hFe k i (by omega)).1).trans (hf3_ k i x1 x2 x3)
        have hc12_ : jCl we := jCl_fr (fun k i hs => by unfold jSup at hs; exact (hFe k i (by omega)).1) hc4_
        refine wk_istore xd_93bd3b5c (by rw [xm_6102cc9e]; rfl) rfl ?_
        refine wk_aload_n xd_a042ef1b rfl ?_
        refine wk_iload_n xd_cbe19d2e rfl ?_
        refine wk_iload xd_c1c294f6 rfl ?_
        obtain ⟨xw, hCw, hw0, hw1, hw2⟩ := jwe_ok (w := we) (p := z) (f := xe) (by have e9 : (z).toInt = ((i : Int) : Int) := hz; exact ⟨by omega, by omega⟩) (by have e9 : (xe).toInt = ((xe).toInt : Int) := rfl; exact ⟨by omega, by omega⟩) hGe
        refine wk_call (kd := 0) (i := 46) xd_3685115b rfl (wk_cal (as := [.inr (.inr (some 33)), .inl z, .inl xe]) (t := []) xl_bcac81c2 rfl xn_db8deddf xc_9c1060a0 rfl rfl xv_fd1b3353 rfl) (cm_C_mono (by decide) hCw) ?_
        refine wk_if xd_e4440076 (t := 54) rfl (fun h44_12 => ?_) (fun h44_12 => ?_)
        · have h44_12 := aw_ne_t (a := ((xw).toInt : Int)) (b := (0 : Int)) rfl hb_z h44_12
          refine wk_goto xd_4a4973bb (t := 67) rfl ?_
          refine aw_iinc (a := ((i : Int) : Int)) (b := (1 : Int)) (e := ((i : Int) + 1 : Int)) xd_9ca95a52 (by rw [xm_6102cc9e]; rfl) rfl rfl hz (show ((Int32.ofInt 1)).toInt = 1 from by decide) (by omega) (by omega) (by omega) (fun v14_ p14_ => ?_)
          refine wk_goto xd_125bf342 (t := 2) rfl ?_
          exact ih (i + 1) _ _ _ we (by omega) (by rw [p14_]; omega) hf11_ hc12_ hGe
        · have h44_12 := aw_ne_f (a := ((xw).toInt : Int)) (b := (0 : Int)) rfl hb_z h44_12
          refine wk_aload_n xd_915ad86c rfl ?_
          refine wk_iload_n xd_faf9aa59 rfl ?_
          refine wk_iload xd_a41baab6 rfl ?_
          obtain ⟨wt, hCt, hGt, hFt_, hct⟩ := jtp_cl (w := we) (p := z) (f := xe) (by have e9 : (z).toInt = ((i : Int) : Int) := hz; exact ⟨by omega, by omega⟩) (by have e9 : (xe).toInt = ((xe).toInt : Int) := rfl; exact ⟨by omega, by omega⟩) (hw2 (by omega)) hc12_ hGe
          refine wk_call (kd := 0) (i := 50) xd_7c7edf8f rfl (wk_cal (as := [.inr (.inr (some 33)), .inl z, .inl xe]) (t := []) xl_d801ec36 rfl xn_2e0d4b1f xc_69cc67f3 rfl rfl xv_8c912979 rfl) (cm_C_mono (by decide) hCt) ?_
          have hft : jAf w1 wt := fun k i x1 x2 x3 => (hFt_ k i (by omega) (by omega) (by omega)).trans (hf11_ k i x1 x2 x3)
          refine wk_goto xd_4a4973bb (t := 67) rfl ?_
          refine aw_iinc (a := ((i : Int) : Int)) (b := (1 : Int)) (e := ((i : Int) + 1 : Int)) xd_9ca95a52 (by rw [xm_6102cc9e]; rfl) rfl rfl hz (show ((Int32.ofInt 1)).toInt = 1 from by decide) (by omega) (by omega) (by omega) (fun v15_ p15_ => ?_)
          refine wk_goto xd_125bf342 (t := 2) rfl ?_
          exact ih (i + 1) _ _ _ wt (by omega) (by rw [p15_]; omega) hft hct hGt
theorem jdp_ok {w : cm_W} (hc : jCl w) (hG : sv_w sg w) : ∃ w', cm_C 4 173 [.inr (.inr (some 120)), .inr (.inr (some 33))] w (none, w') ∧ jAf w w' ∧ jCl w' ∧ sv_w sg w' := by
  have b := hG 4 3
  rw [xg_edd1578a] at b
  have b := hb_in b
  have h : ∃ o, cm_C (3 + 1) 173 [.inr (.inr (some 120)), .inr (.inr (some 33))] w o ∧ (fun o : cm_O => ∃ w', o = (none, w') ∧ jAf w w' ∧ jCl w' ∧ sv_w sg w') o := by
    refine wk_entry (by rw [xm_6102cc9e]; exact Nat.le_of_ble_eq_true rfl) ?_
    rw [show cm_ent 173 [.inr (.inr (some 120)), .inr (.inr (some 33))] = [some (.inr (.inr (some 120))), some (.inr (.inr (some 33))), none, none, none] from by unfold cm_ent; rw [xm_6102cc9e]; rfl]
    refine wk_iconst xd_3632bdfe ?_
    refine wk_istore_n xd_e15c7150 (by rw [xm_6102cc9e]; rfl) rfl ?_
    exact jdp_l w (w.1 4 3).toInt.toNat (by omega) (by omega) _ (fun w2 a b c => ⟨w2, rfl, a, b, c⟩) (w.1 4 3).toInt.toNat 0 _ _ _ w (by omega) (by decide) jAf_rf hc hG
  obtain ⟨o, hC, w', rfl, a⟩ := h
  exact ⟨w', hC, a⟩
theorem jdh_l (w1 : cm_W) (nn sd : Int32) (N : Nat) (hN : N ≤ 60) (eN : nn.toInt = ((N : Int) : Int)) (Q : cm_O → Prop) (hk : ∀ x w, jAf w1 w → jCl w → sv_w sg w → Q (some (.inl x), w)) : ∀ (n i : Nat) (z : Int32) (w : cm_W), n + i = N → z.toInt = (i : Int) → jAf w1 w → jCl w → sv_w sg w → cm_X (cm_C 6) 175 8 [some (.inr (.inr (some 120))), some (.inr (.inr (some 33))), some (.inl nn), some (.inl sd), some (.inl z)] [] w Q := by
  intro n
  induction n with
  | zero =>
    intro i z w hi hz hF hc hG
    refine wk_iload xd_5b324a87 rfl ?_
    refine wk_iload_n xd_ae3a4fc0 rfl ?_
    refine wk_icmp xd_7f20e530 (t := 40) rfl (fun h11_0 => ?_) (fun h11_0 => ?_)
    · have h11_0 := aw_ge_t (a := ((i : Int) : Int)) (b := ((N : Int) : Int)) hz eN h11_0
      refine wk_iload xd_75e84cf8 rfl ?_
      exact wk_ireturn xd_d05ff320 xr_130b5013 rfl (hk _ w hF hc hG)
    · have h11_0 := aw_ge_f (a := ((i : Int) : Int)) (b := ((N : Int) : Int)) hz eN h11_0
      exfalso
      omega
  | succ n ih =>
    intro i z w hi hz hF hc hG
    refine wk_iload xd_5b324a87 rfl ?_
    refine wk_iload_n xd_ae3a4fc0 rfl ?_
    refine wk_icmp xd_7f20e530 (t := 40) rfl (fun h11_1 => ?_) (fun h11_1 => ?_)
    · have h11_1 := aw_ge_t (a := ((i : Int) : Int)) (b := ((N : Int) : Int)) hz eN h11_1
      exfalso
      omega
    · have h11_1 := aw_ge_f (a := ((i : Int) : Int)) (b := ((N : Int) : Int)) hz eN h11_1
      refine wk_aload_n xd_b3c547ee rfl ?_
      obtain ⟨xo, hCo, hxo⟩ := xs_76_4d1d0ea9 (w := w) hG
      refine wk_call (kd := 0) (i := 14) xd_037ef289 rfl (wk_cal (as := [.inr (.inr (some 33))]) (t := []) xl_25caccd5 rfl xn_2ff34012 xc_9aee7e58 rfl rfl xv_b86fe694 rfl) (cm_C_mono (by decide) hCo) ?_
      refine wk_if xd_9ae1e7f8 (t := 40) rfl (fun h18_2 => ?_) (fun h18_2 => ?_)
      · have h18_2 := aw_ne_t (a := ((xo).toInt : Int)) (b := (0 : Int)) rfl hb_z h18_2
        refine wk_iload xd_75e84cf8 rfl ?_
        exact wk_ireturn xd_d05ff320 xr_130b5013 rfl (hk _ w hF hc hG)
      · have h18_2 := aw_ne_f (a := ((xo).toInt : Int)) (b := (0 : Int)) rfl hb_z h18_2
        refine wk_aload_n xd_4d948c31 rfl ?_
        refine wk_aload_n xd_06119cbc rfl ?_
        obtain ⟨wp, hCp, hFp, hcp, hGp⟩ := jdp_ok (w := w) hc hG
        refine wk_call (kd := 0) (i := 20) xd_ea0055a4 rfl (wk_cal (as := [.inr (.inr (some 120)), .inr (.inr (some 33))]) (t := []) xl_4cf3cc65 rfl xn_83dbabb9 xc_adbeb914 rfl rfl xv_0acfa10f rfl) (cm_C_mono (by decide) hCp) ?_
        have hfp : jAf w1 wp := fun k i x1 x2 x3 => (hFp k i x1 x2 x3).trans (hF k i x1 x2 x3)
        refine wk_aload_n xd_064d3d2f rfl ?_
        obtain ⟨wh, hCh, hGh, hFh, hxh⟩ := xs_174_4d1d0ea9 (w := wp) hGp
        refine wk_call (kd := 1) (i := 24) xd_f0e6241f rfl (wk_cal (as := [.inr (.inr (some 33))]) (t := []) xl_8c2ad301 rfl xn_a8f22613 xc_6927fdaa rfl rfl rfl rfl) (cm_C_mono (by decide) hCh) ?_
        have hf4_ : jAf w1 wh := fun k i x1 x2 x3 => ((hFh k i (by omega)).1).trans (hfp k i x1 x2 x3)
        have hc5_ : jCl wh := jCl_fr (fun k i hs => by unfold jSup at hs; exact (hFh k i (by omega)).1) hcp
        refine wk_aload_n xd_6aa22a72 rfl ?_
        obtain ⟨wu, hCu, hGu, hFu, hxu⟩ := xs_78_4d1d0ea9 (w := wh) hGh
        refine wk_call (kd := 0) (i := 27) xd_2e06a775 rfl (wk_cal (as := [.inr (.inr (some 33))]) (t := []) xl_cba226c6 rfl xn_90c3fe73 xc_ee6cbcb9 rfl rfl xv_1234c5ff rfl) (cm_C_mono (by decide) hCu) ?_
        have hf6_ : jAf w1 wu := fun k i x1 x2 x3 => ((hFu k i (by omega)).1).trans (hf4_ k i x1 x2 x3)
        have hc7_ : jCl wu := jCl_fr (fun k i hs => by unfold jSup at hs; exact (hFu k i (by omega)).1) hc5_
        refine aw_iinc (a := ((i : Int) : Int)) (b := (1 : Int)) (e := ((i : Int) + 1 : Int)) xd_62f054de (by rw [xm_ee42393e]; rfl) rfl rfl hz (show ((Int32.ofInt 1)).toInt = 1 from by decide) (by omega) (by omega) (by omega) (fun v8_ p8_ => ?_)
        refine wk_goto xd_e2517736 (t := 8) rfl ?_
        exact ih (i + 1) _ wu (by omega) (by rw [p8_]; omega) hf6_ hc7_ hGu
theorem jdh_ok {w : cm_W} {nn sd : Int32} (hn : 1 ≤ nn.toInt ∧ nn.toInt ≤ 60) (hc : jCl w) (hG : sv_w sg w) : ∃ x w', cm_C 7 175 [.inr (.inr (some 120)), .inr (.inr (some 33)), .inl nn, .inl sd] w (some (.inl x), w') ∧ jAf w w' ∧ jCl w' ∧ sv_w sg w' := by
  have h : ∃ o, cm_C (6 + 1) 175 [.inr (.inr (some 120)), .inr (.inr (some 33)), .inl nn, .inl sd] w o ∧ (fun o : cm_O => ∃ x w', o = (some (.inl x), w') ∧ jAf w w' ∧ jCl w' ∧ sv_w sg w') o := by
    refine wk_entry (by rw [xm_ee42393e]; exact Nat.le_of_ble_eq_true rfl) ?_
    rw [show cm_ent 175 [.inr (.inr (some 120)), .inr (.inr (some 33)), .inl nn, .inl sd] = [some (.inr (.inr (some 120))), some (.inr (.inr (some 33))), some (.inl nn), some (.inl sd), none] from by unfold cm_ent; rw [xm_ee42393e]; rfl]
    refine wk_aload_n xd_27a79945 rfl ?_
    refine wk_iload_n xd_a177da2c rfl ?_
    refine wk_putI xf_841bde2f (fun ci => wk_fitI ci) xd_9cfd3bf6 ?_
    have hG1_ : sv_w sg (cm_u1 w 120 0 sd) := sv_w_u1 hG (by rw [xg_7b6d1cda]; exact sv_in_top _)
    refine wk_iconst xd_16602698 ?_
    refine wk_istore xd_9a7543a8 (by rw [xm_ee42393e]; rfl) rfl ?_
    exact jdh_l (cm_u1 w 120 0 sd) nn sd nn.toInt.toNat (by omega) (by omega) _ (fun x w2 a b c => ⟨x, w2, rfl, fun k i x1 x2 x3 => (a k i x1 x2 x3).trans (hs_u1_ne (by omega)), b, c⟩) nn.toInt.toNat 0 _ (cm_u1 w 120 0 sd) (by omega) (by decide) jAf_rf (jCl_fr (fun k i hs => by unfold jSup at hs; exact hs_u1_ne (by omega)) hc) hG1_
  obtain ⟨o, hC, x, w', rfl, a⟩ := h
  exact ⟨x, w', hC, a⟩
/-- drawn of the class ends -/
theorem jc_drawn {w : cm_W} {a : Int32} {b : Int32} (hc : jCl w) (hG : sv_w sg w) : ∃ x w', cm_C 8 8 [.inr (.inr (some 0)), .inl a, .inl b] w (some (.inl x), w') ∧ sv_w sg w' ∧ jCl w' ∧ jAf w w' := by
  have h : ∃ o, cm_C (7 + 1) 8 [.inr (.inr (some 0)), .inl a, .inl b] w o ∧ (fun o : cm_O => ∃ x w', o = (some (.inl x), w') ∧ sv_w sg w' ∧ jCl w' ∧ jAf w w') o := by
    refine wk_entry (by rw [xm_7d947a86]; exact Nat.le_of_ble_eq_true rfl) ?_
    rw [show cm_ent 8 [.inr (.inr (some 0)), .inl a, .inl b] = [some (.inr (.inr (some 0))), some (.inl a), some (.inl b)] from by unfold cm_ent; rw [xm_7d947a86]; rfl]
    refine wk_iload_n xd_67327c47 rfl ?_
    refine wk_iconst xd_83ffe959 ?_
    refine wk_icmp xd_d76a82a0 (t := 21) rfl (fun h2_0 => ?_) (fun h2_0 => ?_)
    · have h2_0 := aw_lt_t (a := ((a).toInt : Int)) (b := (1 : Int)) rfl (show ((Int32.ofInt 1)).toInt = 1 from by decide) h2_0
      refine wk_iconst xd_ff8b1429 ?_
      exact wk_ireturn xd_56f0dcd1 xr_45ef3732 rfl ⟨_, _, rfl, hG, hc, jAf_rf⟩
    · have h2_0 := aw_lt_f (a := ((a).toInt : Int)) (b := (1 : Int)) rfl (show ((Int32.ofInt 1)).toInt = 1 from by decide) h2_0
      refine wk_iload_n xd_fc1d3700 rfl ?_
      refine wk_bipush xd_7686371c ?_
      refine wk_icmp xd_114b160e (t := 21) rfl (fun h8_1 => ?_) (fun h8_1 => ?_)
      · have h8_1 := aw_gt_t (a := ((a).toInt : Int)) (b := (60 : Int)) rfl (show (((Int8.ofInt 60).toInt32)).toInt = 60 from by decide) h8_1
        refine wk_iconst xd_ff8b1429 ?_
        exact wk_ireturn xd_56f0dcd1 xr_45ef3732 rfl ⟨_, _, rfl, hG, hc, jAf_rf⟩
      · have h8_1 := aw_gt_f (a := ((a).toInt : Int)) (b := (60 : Int)) rfl (show (((Int8.ofInt 60).toInt32)).toInt = 60 from by decide) h8_1
        refine wk_aload_n xd_03c11c43 rfl ?_
        refine wk_getR xf_8e16e7a5 xd_ca862981 ?_
        refine wk_getI xf_b38a6573 xd_9cb97469 ?_
        refine wk_if xd_48ee3d6c (t := 23) rfl (fun h18_2 => ?_) (fun h18_2 => ?_)
        · have h18_2 := aw_ne_t (a := ((w.1 4 4).toInt : Int)) (b := (0 : Int)) rfl hb_z h18_2
          refine wk_aload_n xd_b6496682 rfl ?_
          refine wk_getR xf_d922ccc4 xd_c2f33112 ?_
          obtain ⟨xc4_, hCc4_, hxc4_⟩ := xs_76_4d1d0ea9 (w := w) hG
          refine wk_call (kd := 0) (i := 288) xd_94f4cf66 rfl (wk_cal (as := [.inr (.inr (some 33))]) (t := []) xl_e2f8caed rfl xn_2ff34012 xc_9aee7e58 rfl rfl xv_b86fe694 rfl) (cm_C_mono (by decide) hCc4_) ?_
          refine wk_if xd_0e2482d9 (t := 35) rfl (fun h30_4 => ?_) (fun h30_4 => ?_)
          · have h30_4 := aw_eq_t (a := ((xc4_).toInt : Int)) (b := (0 : Int)) rfl hb_z h30_4
            refine wk_aload_n xd_daa671df rfl ?_
            refine wk_getR xf_2a5a90c4 xd_7ed4627d ?_
            refine wk_aload_n xd_da43936a rfl ?_
            refine wk_getR xf_d922ccc4 xd_0690a658 ?_
            obtain ⟨wk, hCk, hGk, hFk, hck⟩ := jke_ok (w := w) hc hG
            refine wk_call (kd := 0) (i := 269) xd_e14e33dd rfl (wk_cal (as := [.inr (.inr (some 47)), .inr (.inr (some 33))]) (t := []) xl_c497b8ad rfl xn_bc92ca73 xc_4468db2a rfl rfl xv_d8d455c0 rfl) (cm_C_mono (by decide) hCk) ?_
            have hfk : jAf w wk := fun k i x1 x2 x3 => (hFk k i (by omega) (by omega)).trans (jAf_rf k i x1 x2 x3)
            refine wk_aload_n xd_9d5b7f95 rfl ?_
            refine wk_getR xf_78643dae xd_bf029a8b ?_
            refine wk_aload_n xd_f1b468c8 rfl ?_
            refine wk_getR xf_d922ccc4 xd_440690c1 ?_
            refine wk_iload_n xd_968b3386 rfl ?_
            refine wk_iload_n xd_4a58a382 rfl ?_
            obtain ⟨xd, wd, hCd, hFd, hcd, hGd⟩ := jdh_ok (w := wk) (nn := a) (sd := b) ⟨by omega, by omega⟩ hck hGk
            refine wk_call (kd := 0) (i := 353) xd_4fbf1c59 rfl (wk_cal (as := [.inr (.inr (some 120)), .inr (.inr (some 33)), .inl a, .inl b]) (t := []) xl_9c1db0aa rfl xn_e5f8fb2c xc_cf343ece rfl rfl xv_bce0c325 rfl) (cm_C_mono (by decide) hCd) ?_
            have hfd : jAf w wd := fun k i x1 x2 x3 => (hFd k i x1 x2 x3).trans (hfk k i x1 x2 x3)
            exact wk_ireturn xd_6dc56904 xr_45ef3732 rfl ⟨_, _, rfl, hGd, hcd, hfd⟩
          · have h30_4 := aw_eq_f (a := ((xc4_).toInt : Int)) (b := (0 : Int)) rfl hb_z h30_4
            refine wk_iconst xd_4c096bc2 ?_
            exact wk_ireturn xd_b7e5bdd7 xr_45ef3732 rfl ⟨_, _, rfl, hG, hc, jAf_rf⟩
        · have h18_2 := aw_ne_f (a := ((w.1 4 4).toInt : Int)) (b := (0 : Int)) rfl hb_z h18_2
          refine wk_iconst xd_ff8b1429 ?_
          exact wk_ireturn xd_56f0dcd1 xr_45ef3732 rfl ⟨_, _, rfl, hG, hc, jAf_rf⟩
  obtain ⟨o, hC, x, w', rfl, a⟩ := h
  exact ⟨x, w', hC, a⟩

/-! ## person and debt of the class, where they answer (wip/p2/gen9z4.py) -/
set_option maxRecDepth 100000 in
theorem xd_ae362493 : decode (ia_code 164) 0 = .ok (.aload_n 0, 1) := fdd_d (by decide +kernel)
set_option maxRecDepth 100000 in
theorem xd_5226349a : decode (ia_code 164) 1 = .ok (.iload_n 1, 1) := fdd_d (by decide +kernel)
set_option maxRecDepth 100000 in
theorem xl_cbf8d0fa : ia_pl (ia_cls 164) 153 = some (1, 23, 0, 0, 905) := by decide +kernel
set_option maxRecDepth 100000 in
theorem xd_8163b360 : decode (ia_code 164) 2 = .ok (.invokevirtual 153, 3) := fdd_d (by decide +kernel)
set_option maxRecDepth 100000 in
theorem xd_1533b6f1 : decode (ia_code 164) 5 = .ok (.ifCond .ne 13, 3) := fdd_d (by decide +kernel)
set_option maxRecDepth 100000 in
theorem xd_c1baeaba : decode (ia_code 164) 18 = .ok (.iload_n 2, 1) := fdd_d (by decide +kernel)
set_option maxRecDepth 100000 in
theorem xd_d3e8c1c1 : decode (ia_code 164) 19 = .ok (.tableswitch 129 0 7 #[45, 55, 64, 81, 91, 101, 111, 120], 45) := fdd_d (by decide +kernel)
set_option maxRecDepth 100000 in
theorem xd_d084bf75 : decode (ia_code 164) 64 = .ok (.aload_n 0, 1) := fdd_d (by decide +kernel)
set_option maxRecDepth 100000 in
theorem xd_0dda2673 : decode (ia_code 164) 65 = .ok (.getfield 46, 3) := fdd_d (by decide +kernel)
set_option maxRecDepth 100000 in
theorem xf_09a803ba : wk_gf 164 46 0 7 (33 + 3) = true := by decide +kernel
set_option maxRecDepth 100000 in
theorem xd_27223b1a : decode (ia_code 164) 68 = .ok (.getfield 164, 3) := fdd_d (by decide +kernel)
set_option maxRecDepth 100000 in
theorem xf_49a5bd74 : wk_gf 164 164 33 4 (34 + 3) = true := by decide +kernel
set_option maxRecDepth 100000 in
theorem xd_aded6bc8 : decode (ia_code 164) 71 = .ok (.iload_n 1, 1) := fdd_d (by decide +kernel)
set_option maxRecDepth 100000 in
theorem xd_8fb18db0 : decode (ia_code 164) 72 = .ok (.iaload, 1) := fdd_d (by decide +kernel)
set_option maxRecDepth 100000 in
theorem xd_346beb67 : decode (ia_code 164) 73 = .ok (.ireturn, 1) := fdd_d (by decide +kernel)
set_option maxRecDepth 100000 in
theorem xr_539268e0 : ia_ret 164 = some .int := by decide +kernel
set_option maxRecDepth 100000 in
theorem xd_51a1da52 : decode (ia_code 164) 74 = .ok (.aload_n 0, 1) := fdd_d (by decide +kernel)
set_option maxRecDepth 100000 in
theorem xd_eac780e4 : decode (ia_code 164) 75 = .ok (.getfield 46, 3) := fdd_d (by decide +kernel)
set_option maxRecDepth 100000 in
theorem xd_3627c23a : decode (ia_code 164) 78 = .ok (.iload_n 1, 1) := fdd_d (by decide +kernel)
set_option maxRecDepth 100000 in
theorem xs_201_2d17ef67 {a1 : Int32} {w : cm_W} (h1 : 0 ≤ a1.toInt ∧ a1.toInt ≤ 5) (hG : sv_w sg w) : ∃ x : Int32, cm_C 1 201 [.inr (.inr (some 33)), .inl a1] w (some (.inl x), w) ∧ (((-2147483648) ≤ x.toInt ∧ x.toInt ≤ 2147483647)) := by
  obtain ⟨r, w', hC, hG', hF, q, hq, hr, hp, hs⟩ := wk_use (d := 1) sm_201_2d17ef67_ok (by decide) (as := [.inr (.inr (some 33)), .inl a1]) (w := w) ⟨rfl, hb_mk (lo := 2147483648) (hi := 2147483653) (by have := h1.1; omega) (by have := h1.2; omega), trivial⟩ (fun f hf => by
    rcases List.mem_cons.mp hf with rfl | hf
    · exact ⟨(sv_in_top _), .inl rfl, .inl rfl⟩
    cases hf) hG
  have ew : w' = w := Prod.ext (funext fun k => funext fun i => (hF k i (fun ⟨r, z, _⟩ => by cases z)).1) (funext fun k => funext fun i => (hF k i (fun ⟨r, z, _⟩ => by cases z)).2)
  subst ew
  simp only [sm_201_2d17ef67, List.mem_cons, List.not_mem_nil, or_false] at hq
  rcases hq with rfl
  · obtain ⟨x, rfl, hx⟩ := wk_int hr
    have hx := hb_in hx
    exact ⟨x, hC, ⟨by omega, by omega⟩⟩
set_option maxRecDepth 100000 in
theorem xl_01353983 : ia_pl (ia_cls 164) 167 = some (1, 201, 0, 0, 1012) := by decide +kernel
set_option maxRecDepth 100000 in
theorem xn_d5f6d2fc : ia_na 201 = 2 := by decide +kernel
set_option maxRecDepth 100000 in
theorem xc_12f0929c : ia_mc 201 = 0 ∧ ia_ms 201 = 0 := ⟨by decide +kernel, by decide +kernel⟩
set_option maxRecDepth 100000 in
theorem xv_737cb135 : cm_rcv 201 [.inr (.inr (some 33))] = true := by decide +kernel
set_option maxRecDepth 100000 in
theorem xd_e5b55ceb : decode (ia_code 164) 79 = .ok (.invokevirtual 167, 3) := fdd_d (by decide +kernel)
set_option maxRecDepth 100000 in
theorem xd_772b70b9 : decode (ia_code 164) 82 = .ok (.ireturn, 1) := fdd_d (by decide +kernel)
set_option maxRecDepth 100000 in
theorem xd_c40d4935 : decode (ia_code 164) 83 = .ok (.aload_n 0, 1) := fdd_d (by decide +kernel)
set_option maxRecDepth 100000 in
theorem xd_c2a64670 : decode (ia_code 164) 84 = .ok (.getfield 46, 3) := fdd_d (by decide +kernel)
set_option maxRecDepth 100000 in
theorem xd_a332127b : decode (ia_code 164) 87 = .ok (.iload_n 1, 1) := fdd_d (by decide +kernel)
set_option maxRecDepth 100000 in
theorem xl_f39ad56b : ia_pl (ia_cls 164) 171 = some (1, 207, 0, 0, 1143) := by decide +kernel
set_option maxRecDepth 100000 in
theorem xd_f4cfb4fe : decode (ia_code 164) 88 = .ok (.invokevirtual 171, 3) := fdd_d (by decide +kernel)
set_option maxRecDepth 100000 in
theorem xd_3045222d : decode (ia_code 164) 91 = .ok (.ifCond .eq 7, 3) := fdd_d (by decide +kernel)
set_option maxRecDepth 100000 in
theorem xd_8f7ad244 : decode (ia_code 164) 98 = .ok (.iconst 0, 1) := fdd_d (by decide +kernel)
set_option maxRecDepth 100000 in
theorem xd_3eef9fec : decode (ia_code 164) 99 = .ok (.ireturn, 1) := fdd_d (by decide +kernel)
set_option maxRecDepth 100000 in
theorem xd_57f84ef4 : decode (ia_code 164) 94 = .ok (.iconst 1, 1) := fdd_d (by decide +kernel)
set_option maxRecDepth 100000 in
theorem xd_0a4e92ac : decode (ia_code 164) 95 = .ok (.goto 4, 3) := fdd_d (by decide +kernel)
set_option maxRecDepth 100000 in
theorem xd_8ea4db97 : decode (ia_code 164) 100 = .ok (.aload_n 0, 1) := fdd_d (by decide +kernel)
set_option maxRecDepth 100000 in
theorem xd_2b4d4c7c : decode (ia_code 164) 101 = .ok (.getfield 46, 3) := fdd_d (by decide +kernel)
set_option maxRecDepth 100000 in
theorem xd_29ce4ff8 : decode (ia_code 164) 104 = .ok (.getfield 174, 3) := fdd_d (by decide +kernel)
set_option maxRecDepth 100000 in
theorem xf_88e64566 : wk_gf 164 174 33 5 (35 + 3) = true := by decide +kernel
set_option maxRecDepth 100000 in
theorem xd_9f7eb9e4 : decode (ia_code 164) 107 = .ok (.iload_n 1, 1) := fdd_d (by decide +kernel)
set_option maxRecDepth 100000 in
theorem xd_97da90af : decode (ia_code 164) 108 = .ok (.iaload, 1) := fdd_d (by decide +kernel)
set_option maxRecDepth 100000 in
theorem xd_b97b8d8f : decode (ia_code 164) 109 = .ok (.ireturn, 1) := fdd_d (by decide +kernel)
set_option maxRecDepth 100000 in
theorem xd_0f81beb0 : decode (ia_code 164) 110 = .ok (.aload_n 0, 1) := fdd_d (by decide +kernel)
set_option maxRecDepth 100000 in
theorem xd_cc50eaeb : decode (ia_code 164) 111 = .ok (.getfield 46, 3) := fdd_d (by decide +kernel)
set_option maxRecDepth 100000 in
theorem xd_00e22e69 : decode (ia_code 164) 114 = .ok (.getfield 177, 3) := fdd_d (by decide +kernel)
set_option maxRecDepth 100000 in
theorem xf_5fcedf6c : wk_gf 164 177 33 6 (36 + 3) = true := by decide +kernel
set_option maxRecDepth 100000 in
theorem xd_1e5bdcc3 : decode (ia_code 164) 117 = .ok (.iload_n 1, 1) := fdd_d (by decide +kernel)
set_option maxRecDepth 100000 in
theorem xd_08001331 : decode (ia_code 164) 118 = .ok (.iaload, 1) := fdd_d (by decide +kernel)
set_option maxRecDepth 100000 in
theorem xd_ae53e94f : decode (ia_code 164) 119 = .ok (.ireturn, 1) := fdd_d (by decide +kernel)
set_option maxRecDepth 100000 in
theorem xd_579f1798 : decode (ia_code 164) 120 = .ok (.aload_n 0, 1) := fdd_d (by decide +kernel)
set_option maxRecDepth 100000 in
theorem xd_affe9ede : decode (ia_code 164) 121 = .ok (.getfield 25, 3) := fdd_d (by decide +kernel)
set_option maxRecDepth 100000 in
theorem xf_64cf6e40 : wk_gf 164 25 0 4 (4 + 3) = true := by decide +kernel
set_option maxRecDepth 100000 in
theorem xd_f0006d6f : decode (ia_code 164) 124 = .ok (.getfield 180, 3) := fdd_d (by decide +kernel)
set_option maxRecDepth 100000 in
theorem xf_3b920693 : wk_gf 164 180 4 10 (8 + 3) = true := by decide +kernel
set_option maxRecDepth 100000 in
theorem xd_464575eb : decode (ia_code 164) 127 = .ok (.iload_n 1, 1) := fdd_d (by decide +kernel)
set_option maxRecDepth 100000 in
theorem xd_731e91d2 : decode (ia_code 164) 128 = .ok (.iaload, 1) := fdd_d (by decide +kernel)
set_option maxRecDepth 100000 in
theorem xf_5510517c : wk_ar 8 50 6 = true := by decide +kernel
set_option maxRecDepth 100000 in
theorem xd_972b440f : decode (ia_code 164) 129 = .ok (.ireturn, 1) := fdd_d (by decide +kernel)
set_option maxRecDepth 100000 in
theorem xd_d6ba72bf : decode (ia_code 164) 130 = .ok (.aload_n 0, 1) := fdd_d (by decide +kernel)
set_option maxRecDepth 100000 in
theorem xd_48e33849 : decode (ia_code 164) 131 = .ok (.getfield 25, 3) := fdd_d (by decide +kernel)
set_option maxRecDepth 100000 in
theorem xd_b18529f1 : decode (ia_code 164) 134 = .ok (.iload_n 1, 1) := fdd_d (by decide +kernel)
set_option maxRecDepth 100000 in
theorem xs_231_edd710a3 {a1 : Int32} {w : cm_W} (h1 : 0 ≤ a1.toInt ∧ a1.toInt ≤ 5) (hG : sv_w sg w) : ∃ x : Int32, cm_C 1 231 [.inr (.inr (some 4)), .inl a1] w (some (.inl x), w) ∧ (((-2147483648) ≤ x.toInt ∧ x.toInt ≤ 2147483647)) := by
  obtain ⟨r, w', hC, hG', hF, q, hq, hr, hp, hs⟩ := wk_use (d := 1) sm_231_edd710a3_ok (by decide) (as := [.inr (.inr (some 4)), .inl a1]) (w := w) ⟨rfl, hb_mk (lo := 2147483648) (hi := 2147483653) (by have := h1.1; omega) (by have := h1.2; omega), trivial⟩ (fun f hf => by
    cases hf) hG
  have ew : w' = w := Prod.ext (funext fun k => funext fun i => (hF k i (fun ⟨r, z, _⟩ => by cases z)).1) (funext fun k => funext fun i => (hF k i (fun ⟨r, z, _⟩ => by cases z)).2)
  subst ew
  simp only [sm_231_edd710a3, List.mem_cons, List.not_mem_nil, or_false] at hq
  rcases hq with rfl
  · obtain ⟨x, rfl, hx⟩ := wk_int hr
    have hx := hb_in hx
    exact ⟨x, hC, ⟨by omega, by omega⟩⟩
set_option maxRecDepth 100000 in
theorem xl_1e98e327 : ia_pl (ia_cls 164) 183 = some (1, 231, 0, 0, 1436) := by decide +kernel
set_option maxRecDepth 100000 in
theorem xn_5362a052 : ia_na 231 = 2 := by decide +kernel
set_option maxRecDepth 100000 in
theorem xc_cc7a491a : ia_mc 231 = 0 ∧ ia_ms 231 = 0 := ⟨by decide +kernel, by decide +kernel⟩
set_option maxRecDepth 100000 in
theorem xv_efecc4ca : cm_rcv 231 [.inr (.inr (some 4))] = true := by decide +kernel
set_option maxRecDepth 100000 in
theorem xd_5b46eeb0 : decode (ia_code 164) 135 = .ok (.invokevirtual 183, 3) := fdd_d (by decide +kernel)
set_option maxRecDepth 100000 in
theorem xd_1fd9a351 : decode (ia_code 164) 138 = .ok (.ireturn, 1) := fdd_d (by decide +kernel)
set_option maxRecDepth 100000 in
theorem xd_4d70db4d : decode (ia_code 164) 139 = .ok (.aload_n 0, 1) := fdd_d (by decide +kernel)
set_option maxRecDepth 100000 in
theorem xd_a4524aac : decode (ia_code 164) 140 = .ok (.getfield 46, 3) := fdd_d (by decide +kernel)
set_option maxRecDepth 100000 in
theorem xd_f6248628 : decode (ia_code 164) 143 = .ok (.iload_n 1, 1) := fdd_d (by decide +kernel)
set_option maxRecDepth 100000 in
theorem xs_209_ec8c1eaf {a1 : Int32} {w : cm_W} (h1 : 0 ≤ a1.toInt ∧ a1.toInt ≤ 5) (hG : sv_w sg w) : ∃ x : Int32, cm_C 1 209 [.inr (.inr (some 33)), .inl a1] w (some (.inl x), w) ∧ (((-2147483648) ≤ x.toInt ∧ x.toInt ≤ 2147483647)) := by
  obtain ⟨r, w', hC, hG', hF, q, hq, hr, hp, hs⟩ := wk_use (d := 1) sm_209_ec8c1eaf_ok (by decide) (as := [.inr (.inr (some 33)), .inl a1]) (w := w) ⟨rfl, hb_mk (lo := 2147483648) (hi := 2147483653) (by have := h1.1; omega) (by have := h1.2; omega), trivial⟩ (fun f hf => by
    cases hf) hG
  have ew : w' = w := Prod.ext (funext fun k => funext fun i => (hF k i (fun ⟨r, z, _⟩ => by cases z)).1) (funext fun k => funext fun i => (hF k i (fun ⟨r, z, _⟩ => by cases z)).2)
  subst ew
  simp only [sm_209_ec8c1eaf, List.mem_cons, List.not_mem_nil, or_false] at hq
  rcases hq with rfl
  · obtain ⟨x, rfl, hx⟩ := wk_int hr
    have hx := hb_in hx
    exact ⟨x, hC, ⟨by omega, by omega⟩⟩
set_option maxRecDepth 100000 in
theorem xl_5bc09d9e : ia_pl (ia_cls 164) 186 = some (1, 209, 0, 0, 1440) := by decide +kernel
set_option maxRecDepth 100000 in
theorem xn_e586993d : ia_na 209 = 2 := by decide +kernel
set_option maxRecDepth 100000 in
theorem xc_22399a7b : ia_mc 209 = 0 ∧ ia_ms 209 = 0 := ⟨by decide +kernel, by decide +kernel⟩
set_option maxRecDepth 100000 in
theorem xv_90688561 : cm_rcv 209 [.inr (.inr (some 33))] = true := by decide +kernel
set_option maxRecDepth 100000 in
theorem xd_25d49b84 : decode (ia_code 164) 144 = .ok (.invokevirtual 186, 3) := fdd_d (by decide +kernel)
set_option maxRecDepth 100000 in
theorem xd_3615123f : decode (ia_code 164) 147 = .ok (.ireturn, 1) := fdd_d (by decide +kernel)
set_option maxRecDepth 100000 in
theorem xm_f11d661e : ia_maxL 164 = 3 := by decide +kernel
set_option maxRecDepth 100000 in
theorem xd_76f55fb5 : decode (ia_code 163) 0 = .ok (.aload_n 0, 1) := fdd_d (by decide +kernel)
set_option maxRecDepth 100000 in
theorem xd_8ae54fbc : decode (ia_code 163) 1 = .ok (.iload_n 1, 1) := fdd_d (by decide +kernel)
set_option maxRecDepth 100000 in
theorem xl_cca21fa7 : ia_pl (ia_cls 163) 215 = some (1, 19, 0, 0, 1187) := by decide +kernel
set_option maxRecDepth 100000 in
theorem xn_e2f36564 : ia_na 19 = 2 := by decide +kernel
set_option maxRecDepth 100000 in
theorem xc_ffb760ae : ia_mc 19 = 0 ∧ ia_ms 19 = 0 := ⟨by decide +kernel, by decide +kernel⟩
set_option maxRecDepth 100000 in
theorem xv_f20959c7 : cm_rcv 19 [.inr (.inr (some 0))] = true := by decide +kernel
set_option maxRecDepth 100000 in
theorem xd_5bd5a9c9 : decode (ia_code 163) 2 = .ok (.invokevirtual 215, 3) := fdd_d (by decide +kernel)
set_option maxRecDepth 100000 in
theorem xd_a0111fc9 : decode (ia_code 163) 5 = .ok (.ifCond .ne 13, 3) := fdd_d (by decide +kernel)
set_option maxRecDepth 100000 in
theorem xd_136fac3c : decode (ia_code 163) 18 = .ok (.iload_n 2, 1) := fdd_d (by decide +kernel)
set_option maxRecDepth 100000 in
theorem xd_393de494 : decode (ia_code 163) 19 = .ok (.tableswitch 104 0 5 #[37, 47, 57, 67, 77, 87], 37) := fdd_d (by decide +kernel)
set_option maxRecDepth 100000 in
theorem xd_b7d98332 : decode (ia_code 163) 56 = .ok (.aload_n 0, 1) := fdd_d (by decide +kernel)
set_option maxRecDepth 100000 in
theorem xd_0c747da6 : decode (ia_code 163) 57 = .ok (.getfield 25, 3) := fdd_d (by decide +kernel)
set_option maxRecDepth 100000 in
theorem xf_1276f6ee : wk_gf 163 25 0 4 (4 + 3) = true := by decide +kernel
set_option maxRecDepth 100000 in
theorem xd_98d041d5 : decode (ia_code 163) 60 = .ok (.getfield 220, 3) := fdd_d (by decide +kernel)
set_option maxRecDepth 100000 in
theorem xf_3076f84a : wk_gf 163 220 4 16 (14 + 3) = true := by decide +kernel
set_option maxRecDepth 100000 in
theorem xd_138b9b80 : decode (ia_code 163) 63 = .ok (.iload_n 1, 1) := fdd_d (by decide +kernel)
set_option maxRecDepth 100000 in
theorem xd_a550a48c : decode (ia_code 163) 64 = .ok (.iaload, 1) := fdd_d (by decide +kernel)
set_option maxRecDepth 100000 in
theorem xf_e6e1adca : wk_ar 14 50 10 = true := by decide +kernel
set_option maxRecDepth 100000 in
theorem xd_1b2e76c9 : decode (ia_code 163) 65 = .ok (.ireturn, 1) := fdd_d (by decide +kernel)
set_option maxRecDepth 100000 in
theorem xr_2ee16eb8 : ia_ret 163 = some .int := by decide +kernel
set_option maxRecDepth 100000 in
theorem xd_efc72a1a : decode (ia_code 163) 66 = .ok (.aload_n 0, 1) := fdd_d (by decide +kernel)
set_option maxRecDepth 100000 in
theorem xd_fe23905e : decode (ia_code 163) 67 = .ok (.getfield 25, 3) := fdd_d (by decide +kernel)
set_option maxRecDepth 100000 in
theorem xd_b1fc2044 : decode (ia_code 163) 70 = .ok (.getfield 223, 3) := fdd_d (by decide +kernel)
set_option maxRecDepth 100000 in
theorem xf_533e47cc : wk_gf 163 223 4 17 (15 + 3) = true := by decide +kernel
set_option maxRecDepth 100000 in
theorem xd_92aefea7 : decode (ia_code 163) 73 = .ok (.iload_n 1, 1) := fdd_d (by decide +kernel)
set_option maxRecDepth 100000 in
theorem xd_3a8a2712 : decode (ia_code 163) 74 = .ok (.iaload, 1) := fdd_d (by decide +kernel)
set_option maxRecDepth 100000 in
theorem xf_7bee4cbc : wk_ar 15 50 10 = true := by decide +kernel
set_option maxRecDepth 100000 in
theorem xd_0c061209 : decode (ia_code 163) 75 = .ok (.ireturn, 1) := fdd_d (by decide +kernel)
set_option maxRecDepth 100000 in
theorem xd_6ee24f3d : decode (ia_code 163) 76 = .ok (.aload_n 0, 1) := fdd_d (by decide +kernel)
set_option maxRecDepth 100000 in
theorem xd_193e36c9 : decode (ia_code 163) 77 = .ok (.getfield 25, 3) := fdd_d (by decide +kernel)
set_option maxRecDepth 100000 in
theorem xd_694b3f38 : decode (ia_code 163) 80 = .ok (.getfield 226, 3) := fdd_d (by decide +kernel)
set_option maxRecDepth 100000 in
theorem xf_63ffef17 : wk_gf 163 226 4 18 (16 + 3) = true := by decide +kernel
set_option maxRecDepth 100000 in
theorem xd_71bbf56e : decode (ia_code 163) 83 = .ok (.iload_n 1, 1) := fdd_d (by decide +kernel)
set_option maxRecDepth 100000 in
theorem xd_769fa83c : decode (ia_code 163) 84 = .ok (.iaload, 1) := fdd_d (by decide +kernel)
set_option maxRecDepth 100000 in
theorem xf_078f6967 : wk_ar 16 50 10 = true := by decide +kernel
set_option maxRecDepth 100000 in
theorem xd_d09c0a49 : decode (ia_code 163) 85 = .ok (.ireturn, 1) := fdd_d (by decide +kernel)
set_option maxRecDepth 100000 in
theorem xd_8df744f4 : decode (ia_code 163) 86 = .ok (.aload_n 0, 1) := fdd_d (by decide +kernel)
set_option maxRecDepth 100000 in
theorem xd_94d46053 : decode (ia_code 163) 87 = .ok (.getfield 25, 3) := fdd_d (by decide +kernel)
set_option maxRecDepth 100000 in
theorem xd_8597b3a8 : decode (ia_code 163) 90 = .ok (.getfield 229, 3) := fdd_d (by decide +kernel)
set_option maxRecDepth 100000 in
theorem xf_e555e591 : wk_gf 163 229 4 19 (17 + 3) = true := by decide +kernel
set_option maxRecDepth 100000 in
theorem xd_f09e9049 : decode (ia_code 163) 93 = .ok (.iload_n 1, 1) := fdd_d (by decide +kernel)
set_option maxRecDepth 100000 in
theorem xd_e9452ba2 : decode (ia_code 163) 94 = .ok (.iaload, 1) := fdd_d (by decide +kernel)
set_option maxRecDepth 100000 in
theorem xf_9a808811 : wk_ar 17 50 10 = true := by decide +kernel
set_option maxRecDepth 100000 in
theorem xd_c7b46e89 : decode (ia_code 163) 95 = .ok (.ireturn, 1) := fdd_d (by decide +kernel)
set_option maxRecDepth 100000 in
theorem xd_0cd221d3 : decode (ia_code 163) 96 = .ok (.aload_n 0, 1) := fdd_d (by decide +kernel)
set_option maxRecDepth 100000 in
theorem xd_e2305f09 : decode (ia_code 163) 97 = .ok (.getfield 46, 3) := fdd_d (by decide +kernel)
set_option maxRecDepth 100000 in
theorem xf_38b034cd : wk_gf 163 46 0 7 (33 + 3) = true := by decide +kernel
set_option maxRecDepth 100000 in
theorem xd_0ed4ee3a : decode (ia_code 163) 100 = .ok (.getfield 232, 3) := fdd_d (by decide +kernel)
set_option maxRecDepth 100000 in
theorem xf_7534bdd1 : wk_gf 163 232 33 9 (39 + 3) = true := by decide +kernel
set_option maxRecDepth 100000 in
theorem xd_9b2beb24 : decode (ia_code 163) 103 = .ok (.iload_n 1, 1) := fdd_d (by decide +kernel)
set_option maxRecDepth 100000 in
theorem xd_8abc51ec : decode (ia_code 163) 104 = .ok (.iaload, 1) := fdd_d (by decide +kernel)
set_option maxRecDepth 100000 in
theorem xd_56b3fb64 : decode (ia_code 163) 105 = .ok (.ireturn, 1) := fdd_d (by decide +kernel)
set_option maxRecDepth 100000 in
theorem xd_67675abe : decode (ia_code 163) 106 = .ok (.aload_n 0, 1) := fdd_d (by decide +kernel)
set_option maxRecDepth 100000 in
theorem xd_f5b489e2 : decode (ia_code 163) 107 = .ok (.getfield 46, 3) := fdd_d (by decide +kernel)
set_option maxRecDepth 100000 in
theorem xd_6cebb73e : decode (ia_code 163) 110 = .ok (.iload_n 1, 1) := fdd_d (by decide +kernel)
set_option maxRecDepth 100000 in
theorem xs_206_a261f5f6 {a1 : Int32} {w : cm_W} (h1 : 0 ≤ a1.toInt ∧ a1.toInt ≤ 9) (hG : sv_w sg w) : ∃ x : Int32, cm_C 2 206 [.inr (.inr (some 33)), .inl a1] w (some (.inl x), w) ∧ ((x.toInt = 1) ∨ (x.toInt = 0)) := by
  obtain ⟨r, w', hC, hG', hF, q, hq, hr, hp, hs⟩ := wk_use (d := 2) sm_206_a261f5f6_ok (by decide) (as := [.inr (.inr (some 33)), .inl a1]) (w := w) ⟨rfl, hb_mk (lo := 2147483648) (hi := 2147483657) (by have := h1.1; omega) (by have := h1.2; omega), trivial⟩ (fun f hf => by
    cases hf) hG
  have ew : w' = w := Prod.ext (funext fun k => funext fun i => (hF k i (fun ⟨r, z, _⟩ => by cases z)).1) (funext fun k => funext fun i => (hF k i (fun ⟨r, z, _⟩ => by cases z)).2)
  subst ew
  simp only [sm_206_a261f5f6, List.mem_cons, List.not_mem_nil, or_false] at hq
  rcases hq with rfl | rfl
  · obtain ⟨x, rfl, hx⟩ := wk_int hr
    have hx := hb_in hx
    exact ⟨x, hC, Or.inl (by omega)⟩
  · obtain ⟨x, rfl, hx⟩ := wk_int hr
    have hx := hb_in hx
    exact ⟨x, hC, Or.inr ((by omega))⟩
set_option maxRecDepth 100000 in
theorem xl_39ee9ddb : ia_pl (ia_cls 163) 235 = some (1, 206, 0, 0, 1450) := by decide +kernel
set_option maxRecDepth 100000 in
theorem xn_67d60eec : ia_na 206 = 2 := by decide +kernel
set_option maxRecDepth 100000 in
theorem xc_d669d622 : ia_mc 206 = 0 ∧ ia_ms 206 = 0 := ⟨by decide +kernel, by decide +kernel⟩
set_option maxRecDepth 100000 in
theorem xv_cbe9a3a0 : cm_rcv 206 [.inr (.inr (some 33))] = true := by decide +kernel
set_option maxRecDepth 100000 in
theorem xd_d0c37c76 : decode (ia_code 163) 111 = .ok (.invokevirtual 235, 3) := fdd_d (by decide +kernel)
set_option maxRecDepth 100000 in
theorem xd_11ad1f3b : decode (ia_code 163) 114 = .ok (.ifCond .eq 7, 3) := fdd_d (by decide +kernel)
set_option maxRecDepth 100000 in
theorem xd_ca6ea11b : decode (ia_code 163) 121 = .ok (.iconst 0, 1) := fdd_d (by decide +kernel)
set_option maxRecDepth 100000 in
theorem xd_1104b4bc : decode (ia_code 163) 122 = .ok (.ireturn, 1) := fdd_d (by decide +kernel)
set_option maxRecDepth 100000 in
theorem xd_f31aeb16 : decode (ia_code 163) 117 = .ok (.iconst 1, 1) := fdd_d (by decide +kernel)
set_option maxRecDepth 100000 in
theorem xd_71245aa6 : decode (ia_code 163) 118 = .ok (.goto 4, 3) := fdd_d (by decide +kernel)
set_option maxRecDepth 100000 in
theorem xm_433dba0e : ia_maxL 163 = 3 := by decide +kernel
theorem jpe_ok {w : cm_W} {p q b : Int32} (hC : cm_C 4 23 [.inr (.inr (some 0)), .inl p] w (some (.inl b), w)) (hb : b.toInt ≠ 0) (hp : 0 ≤ p.toInt ∧ p.toInt ≤ 5) (hq : 0 ≤ q.toInt ∧ q.toInt ≤ 7) (hG : sv_w sg w) : ∃ x : Int32, cm_C 5 164 [.inr (.inr (some 0)), .inl p, .inl q] w (some (.inl x), w) := by
  obtain ⟨P, eP⟩ : ∃ P : Nat, p.toInt = (P : Int) := ⟨p.toInt.toNat, by omega⟩
  have h : ∃ o, cm_C (4 + 1) 164 [.inr (.inr (some 0)), .inl p, .inl q] w o ∧ (fun o : cm_O => ∃ x : Int32, o = (some (.inl x), w)) o := by
    refine wk_entry (by rw [xm_f11d661e]; exact Nat.le_of_ble_eq_true rfl) ?_
    rw [show cm_ent 164 [.inr (.inr (some 0)), .inl p, .inl q] = [some (.inr (.inr (some 0))), some (.inl p), some (.inl q)] from by unfold cm_ent; rw [xm_f11d661e]; rfl]
    refine wk_aload_n xd_ae362493 rfl ?_
    refine wk_iload_n xd_5226349a rfl ?_
    refine wk_call (kd := 0) (i := 153) xd_8163b360 rfl (wk_cal (as := [.inr (.inr (some 0)), .inl p]) (t := []) xl_cbf8d0fa rfl xn_2ed70f6b xc_d265dc1c rfl rfl xv_51e6c652 rfl) hC ?_
    refine wk_if xd_1533b6f1 (t := 18) rfl (fun h5_0 => ?_) (fun h5_0 => ?_)
    · have h5_0 := aw_ne_t (a := ((b).toInt : Int)) (b := (0 : Int)) rfl hb_z h5_0
      refine wk_iload_n xd_c1baeaba rfl ?_
      have hkw : q.toInt = 0 ∨ q.toInt = 1 ∨ q.toInt = 2 ∨ q.toInt = 3 ∨ q.toInt = 4 ∨ q.toInt = 5 ∨ q.toInt = 6 ∨ q.toInt = 7 := by omega
      rcases hkw with hkw | hkw | hkw | hkw | hkw | hkw | hkw | hkw
      · refine aw_tsw xd_d3e8c1c1 hkw (by omega) (by omega) (t := 64) rfl rfl ?_
        refine wk_aload_n xd_d084bf75 rfl ?_
        refine wk_getR xf_09a803ba xd_0dda2673 ?_
        refine wk_getR xf_49a5bd74 xd_27223b1a ?_
        refine wk_iload_n xd_aded6bc8 rfl ?_
        refine aw_iaload (i := P) xf_34c2cae4 eP (by omega) (by omega) xd_8fb18db0 ?_
        exact wk_ireturn xd_346beb67 xr_539268e0 rfl ⟨_, rfl⟩
      · refine aw_tsw xd_d3e8c1c1 hkw (by omega) (by omega) (t := 74) rfl rfl ?_
        refine wk_aload_n xd_51a1da52 rfl ?_
        refine wk_getR xf_09a803ba xd_eac780e4 ?_
        refine wk_iload_n xd_3627c23a rfl ?_
        obtain ⟨xc2_, hCc2_, hxc2_⟩ := xs_201_2d17ef67 (w := w) (a1 := p) (by have e9 : (p).toInt = ((P : Int) : Int) := eP; exact ⟨by omega, by omega⟩) hG
        refine wk_call (kd := 0) (i := 167) xd_e5b55ceb rfl (wk_cal (as := [.inr (.inr (some 33)), .inl p]) (t := []) xl_01353983 rfl xn_d5f6d2fc xc_12f0929c rfl rfl xv_737cb135 rfl) (cm_C_mono (by omega) hCc2_) ?_
        exact wk_ireturn xd_772b70b9 xr_539268e0 rfl ⟨_, rfl⟩
      · refine aw_tsw xd_d3e8c1c1 hkw (by omega) (by omega) (t := 83) rfl rfl ?_
        refine wk_aload_n xd_c40d4935 rfl ?_
        refine wk_getR xf_09a803ba xd_c2a64670 ?_
        refine wk_iload_n xd_a332127b rfl ?_
        obtain ⟨xc3_, hCc3_, hxc3_⟩ := xs_207_ec8c1eaf (w := w) (a1 := p) (by have e9 : (p).toInt = ((P : Int) : Int) := eP; exact ⟨by omega, by omega⟩) hG
        refine wk_call (kd := 0) (i := 171) xd_f4cfb4fe rfl (wk_cal (as := [.inr (.inr (some 33)), .inl p]) (t := []) xl_f39ad56b rfl xn_5ab6275c xc_707a1546 rfl rfl xv_3a33a60a rfl) (cm_C_mono (by omega) hCc3_) ?_
        refine wk_if xd_3045222d (t := 98) rfl (fun h91_3 => ?_) (fun h91_3 => ?_)
        · have h91_3 := aw_eq_t (a := ((xc3_).toInt : Int)) (b := (0 : Int)) rfl hb_z h91_3
          refine wk_iconst xd_8f7ad244 ?_
          exact wk_ireturn xd_3eef9fec xr_539268e0 rfl ⟨_, rfl⟩
        · have h91_3 := aw_eq_f (a := ((xc3_).toInt : Int)) (b := (0 : Int)) rfl hb_z h91_3
          refine wk_iconst xd_57f84ef4 ?_
          refine wk_goto xd_0a4e92ac (t := 99) rfl ?_
          exact wk_ireturn xd_3eef9fec xr_539268e0 rfl ⟨_, rfl⟩
      · refine aw_tsw xd_d3e8c1c1 hkw (by omega) (by omega) (t := 100) rfl rfl ?_
        refine wk_aload_n xd_8ea4db97 rfl ?_
        refine wk_getR xf_09a803ba xd_2b4d4c7c ?_
        refine wk_getR xf_88e64566 xd_29ce4ff8 ?_
        refine wk_iload_n xd_9f7eb9e4 rfl ?_
        refine aw_iaload (i := P) xf_e9541361 eP (by omega) (by omega) xd_97da90af ?_
        exact wk_ireturn xd_b97b8d8f xr_539268e0 rfl ⟨_, rfl⟩
      · refine aw_tsw xd_d3e8c1c1 hkw (by omega) (by omega) (t := 110) rfl rfl ?_
        refine wk_aload_n xd_0f81beb0 rfl ?_
        refine wk_getR xf_09a803ba xd_cc50eaeb ?_
        refine wk_getR xf_5fcedf6c xd_00e22e69 ?_
        refine wk_iload_n xd_1e5bdcc3 rfl ?_
        refine aw_iaload (i := P) xf_549e7faf eP (by omega) (by omega) xd_08001331 ?_
        exact wk_ireturn xd_ae53e94f xr_539268e0 rfl ⟨_, rfl⟩
      · refine aw_tsw xd_d3e8c1c1 hkw (by omega) (by omega) (t := 120) rfl rfl ?_
        refine wk_aload_n xd_579f1798 rfl ?_
        refine wk_getR xf_64cf6e40 xd_affe9ede ?_
        refine wk_getR xf_3b920693 xd_f0006d6f ?_
        refine wk_iload_n xd_464575eb rfl ?_
        refine aw_iaload (i := P) xf_5510517c eP (by omega) (by omega) xd_731e91d2 ?_
        exact wk_ireturn xd_972b440f xr_539268e0 rfl ⟨_, rfl⟩
      · refine aw_tsw xd_d3e8c1c1 hkw (by omega) (by omega) (t := 130) rfl rfl ?_
        refine wk_aload_n xd_d6ba72bf rfl ?_
        refine wk_getR xf_64cf6e40 xd_48e33849 ?_
        refine wk_iload_n xd_b18529f1 rfl ?_
        obtain ⟨xc5_, hCc5_, hxc5_⟩ := xs_231_edd710a3 (w := w) (a1 := p) (by have e9 : (p).toInt = ((P : Int) : Int) := eP; exact ⟨by omega, by omega⟩) hG
        refine wk_call (kd := 0) (i := 183) xd_5b46eeb0 rfl (wk_cal (as := [.inr (.inr (some 4)), .inl p]) (t := []) xl_1e98e327 rfl xn_5362a052 xc_cc7a491a rfl rfl xv_efecc4ca rfl) (cm_C_mono (by omega) hCc5_) ?_
        exact wk_ireturn xd_1fd9a351 xr_539268e0 rfl ⟨_, rfl⟩
      · refine aw_tsw xd_d3e8c1c1 hkw (by omega) (by omega) (t := 139) rfl rfl ?_
        refine wk_aload_n xd_4d70db4d rfl ?_
        refine wk_getR xf_09a803ba xd_a4524aac ?_
        refine wk_iload_n xd_f6248628 rfl ?_
        obtain ⟨xc6_, hCc6_, hxc6_⟩ := xs_209_ec8c1eaf (w := w) (a1 := p) (by have e9 : (p).toInt = ((P : Int) : Int) := eP; exact ⟨by omega, by omega⟩) hG
        refine wk_call (kd := 0) (i := 186) xd_25d49b84 rfl (wk_cal (as := [.inr (.inr (some 33)), .inl p]) (t := []) xl_5bc09d9e rfl xn_e586993d xc_22399a7b rfl rfl xv_90688561 rfl) (cm_C_mono (by omega) hCc6_) ?_
        exact wk_ireturn xd_3615123f xr_539268e0 rfl ⟨_, rfl⟩
    · have h5_0 := aw_ne_f (a := ((b).toInt : Int)) (b := (0 : Int)) rfl hb_z h5_0
      exfalso
      omega
  obtain ⟨o, hC, x, rfl⟩ := h
  exact ⟨x, hC⟩
theorem jde_ok {w : cm_W} {p q b : Int32} (hC : cm_C 4 19 [.inr (.inr (some 0)), .inl p] w (some (.inl b), w)) (hb : b.toInt ≠ 0) (hp : 0 ≤ p.toInt ∧ p.toInt ≤ 9) (hq : 0 ≤ q.toInt ∧ q.toInt ≤ 5) (hG : sv_w sg w) : ∃ x : Int32, cm_C 5 163 [.inr (.inr (some 0)), .inl p, .inl q] w (some (.inl x), w) := by
  obtain ⟨P, eP⟩ : ∃ P : Nat, p.toInt = (P : Int) := ⟨p.toInt.toNat, by omega⟩
  have h : ∃ o, cm_C (4 + 1) 163 [.inr (.inr (some 0)), .inl p, .inl q] w o ∧ (fun o : cm_O => ∃ x : Int32, o = (some (.inl x), w)) o := by
    refine wk_entry (by rw [xm_433dba0e]; exact Nat.le_of_ble_eq_true rfl) ?_
    rw [show cm_ent 163 [.inr (.inr (some 0)), .inl p, .inl q] = [some (.inr (.inr (some 0))), some (.inl p), some (.inl q)] from by unfold cm_ent; rw [xm_433dba0e]; rfl]
    refine wk_aload_n xd_76f55fb5 rfl ?_
    refine wk_iload_n xd_8ae54fbc rfl ?_
    refine wk_call (kd := 0) (i := 215) xd_5bd5a9c9 rfl (wk_cal (as := [.inr (.inr (some 0)), .inl p]) (t := []) xl_cca21fa7 rfl xn_e2f36564 xc_ffb760ae rfl rfl xv_f20959c7 rfl) hC ?_
    refine wk_if xd_a0111fc9 (t := 18) rfl (fun h5_0 => ?_) (fun h5_0 => ?_)
    · have h5_0 := aw_ne_t (a := ((b).toInt : Int)) (b := (0 : Int)) rfl hb_z h5_0
      refine wk_iload_n xd_136fac3c rfl ?_
      have hkw : q.toInt = 0 ∨ q.toInt = 1 ∨ q.toInt = 2 ∨ q.toInt = 3 ∨ q.toInt = 4 ∨ q.toInt = 5 := by omega
      rcases hkw with hkw | hkw | hkw | hkw | hkw | hkw
      · refine aw_tsw xd_393de494 hkw (by omega) (by omega) (t := 56) rfl rfl ?_
        refine wk_aload_n xd_b7d98332 rfl ?_
        refine wk_getR xf_1276f6ee xd_0c747da6 ?_
        refine wk_getR xf_3076f84a xd_98d041d5 ?_
        refine wk_iload_n xd_138b9b80 rfl ?_
        refine aw_iaload (i := P) xf_e6e1adca eP (by omega) (by omega) xd_a550a48c ?_
        exact wk_ireturn xd_1b2e76c9 xr_2ee16eb8 rfl ⟨_, rfl⟩
      · refine aw_tsw xd_393de494 hkw (by omega) (by omega) (t := 66) rfl rfl ?_
        refine wk_aload_n xd_efc72a1a rfl ?_
        refine wk_getR xf_1276f6ee xd_fe23905e ?_
        refine wk_getR xf_533e47cc xd_b1fc2044 ?_
        refine wk_iload_n xd_92aefea7 rfl ?_
        refine aw_iaload (i := P) xf_7bee4cbc eP (by omega) (by omega) xd_3a8a2712 ?_
        exact wk_ireturn xd_0c061209 xr_2ee16eb8 rfl ⟨_, rfl⟩
      · refine aw_tsw xd_393de494 hkw (by omega) (by omega) (t := 76) rfl rfl ?_
        refine wk_aload_n xd_6ee24f3d rfl ?_
        refine wk_getR xf_1276f6ee xd_193e36c9 ?_
        refine wk_getR xf_63ffef17 xd_694b3f38 ?_
        refine wk_iload_n xd_71bbf56e rfl ?_
        refine aw_iaload (i := P) xf_078f6967 eP (by omega) (by omega) xd_769fa83c ?_
        exact wk_ireturn xd_d09c0a49 xr_2ee16eb8 rfl ⟨_, rfl⟩
      · refine aw_tsw xd_393de494 hkw (by omega) (by omega) (t := 86) rfl rfl ?_
        refine wk_aload_n xd_8df744f4 rfl ?_
        refine wk_getR xf_1276f6ee xd_94d46053 ?_
        refine wk_getR xf_e555e591 xd_8597b3a8 ?_
        refine wk_iload_n xd_f09e9049 rfl ?_
        refine aw_iaload (i := P) xf_9a808811 eP (by omega) (by omega) xd_e9452ba2 ?_
        exact wk_ireturn xd_c7b46e89 xr_2ee16eb8 rfl ⟨_, rfl⟩
      · refine aw_tsw xd_393de494 hkw (by omega) (by omega) (t := 96) rfl rfl ?_
        refine wk_aload_n xd_0cd221d3 rfl ?_
        refine wk_getR xf_38b034cd xd_e2305f09 ?_
        refine wk_getR xf_7534bdd1 xd_0ed4ee3a ?_
        refine wk_iload_n xd_9b2beb24 rfl ?_
        refine aw_iaload (i := P) xf_f99d6c00 eP (by omega) (by omega) xd_8abc51ec ?_
        exact wk_ireturn xd_56b3fb64 xr_2ee16eb8 rfl ⟨_, rfl⟩
      · refine aw_tsw xd_393de494 hkw (by omega) (by omega) (t := 106) rfl rfl ?_
        refine wk_aload_n xd_67675abe rfl ?_
        refine wk_getR xf_38b034cd xd_f5b489e2 ?_
        refine wk_iload_n xd_6cebb73e rfl ?_
        obtain ⟨xc2_, hCc2_, hxc2_⟩ := xs_206_a261f5f6 (w := w) (a1 := p) (by have e9 : (p).toInt = ((P : Int) : Int) := eP; exact ⟨by omega, by omega⟩) hG
        refine wk_call (kd := 0) (i := 235) xd_d0c37c76 rfl (wk_cal (as := [.inr (.inr (some 33)), .inl p]) (t := []) xl_39ee9ddb rfl xn_67d60eec xc_d669d622 rfl rfl xv_cbe9a3a0 rfl) (cm_C_mono (by omega) hCc2_) ?_
        refine wk_if xd_11ad1f3b (t := 121) rfl (fun h114_2 => ?_) (fun h114_2 => ?_)
        · have h114_2 := aw_eq_t (a := ((xc2_).toInt : Int)) (b := (0 : Int)) rfl hb_z h114_2
          refine wk_iconst xd_ca6ea11b ?_
          exact wk_ireturn xd_1104b4bc xr_2ee16eb8 rfl ⟨_, rfl⟩
        · have h114_2 := aw_eq_f (a := ((xc2_).toInt : Int)) (b := (0 : Int)) rfl hb_z h114_2
          refine wk_iconst xd_f31aeb16 ?_
          refine wk_goto xd_71245aa6 (t := 122) rfl ?_
          exact wk_ireturn xd_1104b4bc xr_2ee16eb8 rfl ⟨_, rfl⟩
    · have h5_0 := aw_ne_f (a := ((b).toInt : Int)) (b := (0 : Int)) rfl hb_z h5_0
      exfalso
      omega
  obtain ⟨o, hC, x, rfl⟩ := h
  exact ⟨x, hC⟩

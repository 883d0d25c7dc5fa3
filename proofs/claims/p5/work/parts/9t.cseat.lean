/-! ## by hand: table of the class (wip/p2/gen9t.py) -/
set_option maxRecDepth 100000 in
theorem xd_62dec4e8 : decode (ia_code 228) 27 = .ok (.iload 4, 2) := fdd_d (by decide +kernel)
set_option maxRecDepth 100000 in
theorem xd_456bf141 : decode (ia_code 228) 29 = .ok (.iload_n 1, 1) := fdd_d (by decide +kernel)
set_option maxRecDepth 100000 in
theorem xd_bd490908 : decode (ia_code 228) 30 = .ok (.if_icmp .ge 41, 3) := fdd_d (by decide +kernel)
set_option maxRecDepth 100000 in
theorem xd_4e02fe74 : decode (ia_code 228) 33 = .ok (.aload_n 0, 1) := fdd_d (by decide +kernel)
set_option maxRecDepth 100000 in
theorem xd_d2582469 : decode (ia_code 228) 34 = .ok (.getfield 24, 3) := fdd_d (by decide +kernel)
set_option maxRecDepth 100000 in
theorem xf_d3c35aa2 : wk_gf 228 24 121 5 (124 + 3) = true := by decide +kernel
set_option maxRecDepth 100000 in
theorem xd_6e9ddfea : decode (ia_code 228) 37 = .ok (.iload_n 2, 1) := fdd_d (by decide +kernel)
set_option maxRecDepth 100000 in
theorem xd_3b6e5950 : decode (ia_code 228) 38 = .ok (.bipush 35, 2) := fdd_d (by decide +kernel)
set_option maxRecDepth 100000 in
theorem xd_ea3a171f : decode (ia_code 228) 40 = .ok (.imul, 1) := fdd_d (by decide +kernel)
set_option maxRecDepth 100000 in
theorem xd_e6129bae : decode (ia_code 228) 41 = .ok (.iload 4, 2) := fdd_d (by decide +kernel)
set_option maxRecDepth 100000 in
theorem xd_3fe63af6 : decode (ia_code 228) 43 = .ok (.iadd, 1) := fdd_d (by decide +kernel)
set_option maxRecDepth 100000 in
theorem xd_c26d9764 : decode (ia_code 228) 44 = .ok (.iaload, 1) := fdd_d (by decide +kernel)
set_option maxRecDepth 100000 in
theorem xd_92d0bb79 : decode (ia_code 228) 45 = .ok (.aload_n 0, 1) := fdd_d (by decide +kernel)
set_option maxRecDepth 100000 in
theorem xd_8e2ccea4 : decode (ia_code 228) 46 = .ok (.getfield 62, 3) := fdd_d (by decide +kernel)
set_option maxRecDepth 100000 in
theorem xf_a9bbdb8b : wk_gf 228 62 121 8 0 = true := by decide +kernel
set_option maxRecDepth 100000 in
theorem xd_0d7beeb8 : decode (ia_code 228) 49 = .ok (.if_icmp .ne 16, 3) := fdd_d (by decide +kernel)
set_option maxRecDepth 100000 in
theorem xd_7b44118f : decode (ia_code 228) 65 = .ok (.iinc 4 1, 3) := fdd_d (by decide +kernel)
set_option maxRecDepth 100000 in
theorem xm_77f776a1 : ia_maxL 228 = 5 := by decide +kernel
set_option maxRecDepth 100000 in
theorem xd_aaf46e31 : decode (ia_code 228) 68 = .ok (.goto (-41), 3) := fdd_d (by decide +kernel)
set_option maxRecDepth 100000 in
theorem xd_78efef4d : decode (ia_code 228) 52 = .ok (.iload_n 3, 1) := fdd_d (by decide +kernel)
set_option maxRecDepth 100000 in
theorem xd_15fefe13 : decode (ia_code 228) 53 = .ok (.iload 4, 2) := fdd_d (by decide +kernel)
set_option maxRecDepth 100000 in
theorem xl_ea645ef9 : ia_pl (ia_cls 228) 88 = some (1, 176, 1, 0, 1031) := by decide +kernel
set_option maxRecDepth 100000 in
theorem xd_5b258819 : decode (ia_code 228) 55 = .ok (.invokestatic 88, 3) := fdd_d (by decide +kernel)
set_option maxRecDepth 100000 in
theorem xl_b9d69ea8 : ia_pl (ia_cls 228) 101 = some (1, 182, 1, 0, 1057) := by decide +kernel
set_option maxRecDepth 100000 in
theorem xd_04354747 : decode (ia_code 228) 58 = .ok (.invokestatic 101, 3) := fdd_d (by decide +kernel)
set_option maxRecDepth 100000 in
theorem xd_3c86a214 : decode (ia_code 228) 61 = .ok (.invokestatic 96, 3) := fdd_d (by decide +kernel)
set_option maxRecDepth 100000 in
theorem xl_6849019d : ia_pl (ia_cls 228) 96 = some (7, 0, 0, 0, 1052) := by decide +kernel
set_option maxRecDepth 100000 in
theorem xd_dfd928df : decode (ia_code 228) 64 = .ok (.istore_n 3, 1) := fdd_d (by decide +kernel)
set_option maxRecDepth 100000 in
theorem xd_b7a613e5 : decode (ia_code 228) 17 = .ok (.iload_n 2, 1) := fdd_d (by decide +kernel)
set_option maxRecDepth 100000 in
theorem xd_465d2d45 : decode (ia_code 228) 18 = .ok (.ifCond .lt 80, 3) := fdd_d (by decide +kernel)
set_option maxRecDepth 100000 in
theorem xd_fdc59cc9 : decode (ia_code 228) 98 = .ok (.return_, 1) := fdd_d (by decide +kernel)
set_option maxRecDepth 100000 in
theorem xr_fd2c1d8f : ia_ret 228 = none := by decide +kernel
set_option maxRecDepth 100000 in
theorem xd_d4013345 : decode (ia_code 228) 21 = .ok (.bipush 31, 2) := fdd_d (by decide +kernel)
set_option maxRecDepth 100000 in
theorem xd_157c5553 : decode (ia_code 228) 23 = .ok (.istore_n 3, 1) := fdd_d (by decide +kernel)
set_option maxRecDepth 100000 in
theorem xd_00e6ca5f : decode (ia_code 228) 24 = .ok (.iconst 0, 1) := fdd_d (by decide +kernel)
set_option maxRecDepth 100000 in
theorem xd_a2a366ef : decode (ia_code 228) 25 = .ok (.istore 4, 2) := fdd_d (by decide +kernel)
set_option maxRecDepth 100000 in
theorem xd_ca92b3c2 : decode (ia_code 228) 71 = .ok (.aload_n 0, 1) := fdd_d (by decide +kernel)
set_option maxRecDepth 100000 in
theorem xd_adcbab74 : decode (ia_code 228) 72 = .ok (.getfield 30, 3) := fdd_d (by decide +kernel)
set_option maxRecDepth 100000 in
theorem xf_7ac68a3b : wk_gf 228 30 121 7 (126 + 3) = true := by decide +kernel
set_option maxRecDepth 100000 in
theorem xd_ea0d925c : decode (ia_code 228) 75 = .ok (.iload_n 2, 1) := fdd_d (by decide +kernel)
set_option maxRecDepth 100000 in
theorem xd_4a9b5093 : decode (ia_code 228) 76 = .ok (.bipush 31, 2) := fdd_d (by decide +kernel)
set_option maxRecDepth 100000 in
theorem xd_4cfbb38d : decode (ia_code 228) 78 = .ok (.iload_n 3, 1) := fdd_d (by decide +kernel)
set_option maxRecDepth 100000 in
theorem xd_ca2bf0e4 : decode (ia_code 228) 79 = .ok (.aload_n 0, 1) := fdd_d (by decide +kernel)
set_option maxRecDepth 100000 in
theorem xd_b047dbb3 : decode (ia_code 228) 80 = .ok (.getfield 30, 3) := fdd_d (by decide +kernel)
set_option maxRecDepth 100000 in
theorem xd_e4d2ebef : decode (ia_code 228) 83 = .ok (.iload_n 2, 1) := fdd_d (by decide +kernel)
set_option maxRecDepth 100000 in
theorem xd_d0a97320 : decode (ia_code 228) 84 = .ok (.iconst 1, 1) := fdd_d (by decide +kernel)
set_option maxRecDepth 100000 in
theorem xd_d1539614 : decode (ia_code 228) 85 = .ok (.iadd, 1) := fdd_d (by decide +kernel)
set_option maxRecDepth 100000 in
theorem xd_3fa8ec25 : decode (ia_code 228) 86 = .ok (.iaload, 1) := fdd_d (by decide +kernel)
set_option maxRecDepth 100000 in
theorem xd_d487fd97 : decode (ia_code 228) 87 = .ok (.iadd, 1) := fdd_d (by decide +kernel)
set_option maxRecDepth 100000 in
theorem xd_4069eaa3 : decode (ia_code 228) 88 = .ok (.invokestatic 96, 3) := fdd_d (by decide +kernel)
set_option maxRecDepth 100000 in
theorem xd_f296074a : decode (ia_code 228) 91 = .ok (.iastore, 1) := fdd_d (by decide +kernel)
set_option maxRecDepth 100000 in
theorem xf_4644e4f8 : sv_gr sg 126 = [] := by decide +kernel
set_option maxRecDepth 100000 in
theorem xd_e7f7cd1f : decode (ia_code 228) 92 = .ok (.iinc 2 (-1), 3) := fdd_d (by decide +kernel)
set_option maxRecDepth 100000 in
theorem xd_64668dbd : decode (ia_code 228) 95 = .ok (.goto (-78), 3) := fdd_d (by decide +kernel)
set_option maxRecDepth 100000 in
theorem xd_b214f393 : decode (ia_code 228) 0 = .ok (.aload_n 0, 1) := fdd_d (by decide +kernel)
set_option maxRecDepth 100000 in
theorem xd_e8d1d82a : decode (ia_code 228) 1 = .ok (.getfield 30, 3) := fdd_d (by decide +kernel)
set_option maxRecDepth 100000 in
theorem xd_b2485200 : decode (ia_code 228) 4 = .ok (.aload_n 0, 1) := fdd_d (by decide +kernel)
set_option maxRecDepth 100000 in
theorem xd_85edb2b6 : decode (ia_code 228) 5 = .ok (.getfield 79, 3) := fdd_d (by decide +kernel)
set_option maxRecDepth 100000 in
theorem xf_8c26c082 : wk_gf 228 79 121 3 0 = true := by decide +kernel
set_option maxRecDepth 100000 in
theorem xd_e88aa390 : decode (ia_code 228) 8 = .ok (.iconst 0, 1) := fdd_d (by decide +kernel)
set_option maxRecDepth 100000 in
theorem xd_b4e974f6 : decode (ia_code 228) 9 = .ok (.iastore, 1) := fdd_d (by decide +kernel)
set_option maxRecDepth 100000 in
theorem xd_e1dc0b46 : decode (ia_code 228) 10 = .ok (.aload_n 0, 1) := fdd_d (by decide +kernel)
set_option maxRecDepth 100000 in
theorem xd_3179e0f1 : decode (ia_code 228) 11 = .ok (.getfield 79, 3) := fdd_d (by decide +kernel)
set_option maxRecDepth 100000 in
theorem xd_4b63dad2 : decode (ia_code 228) 14 = .ok (.iconst 1, 1) := fdd_d (by decide +kernel)
set_option maxRecDepth 100000 in
theorem xd_b89ba2b0 : decode (ia_code 228) 15 = .ok (.isub, 1) := fdd_d (by decide +kernel)
set_option maxRecDepth 100000 in
theorem xd_f5d231c8 : decode (ia_code 228) 16 = .ok (.istore_n 2, 1) := fdd_d (by decide +kernel)
set_option maxRecDepth 100000 in
theorem xd_ef31500f : decode (ia_code 225) 42 = .ok (.iload 4, 2) := fdd_d (by decide +kernel)
set_option maxRecDepth 100000 in
theorem xd_c7dc2a1c : decode (ia_code 225) 44 = .ok (.bipush 35, 2) := fdd_d (by decide +kernel)
set_option maxRecDepth 100000 in
theorem xd_6e775fff : decode (ia_code 225) 46 = .ok (.if_icmp .ge 42, 3) := fdd_d (by decide +kernel)
set_option maxRecDepth 100000 in
theorem xd_5f7aff42 : decode (ia_code 225) 49 = .ok (.aload_n 0, 1) := fdd_d (by decide +kernel)
set_option maxRecDepth 100000 in
theorem xd_8c8ecd74 : decode (ia_code 225) 50 = .ok (.getfield 24, 3) := fdd_d (by decide +kernel)
set_option maxRecDepth 100000 in
theorem xf_1e8cfc2c : wk_gf 225 24 121 5 (124 + 3) = true := by decide +kernel
set_option maxRecDepth 100000 in
theorem xd_33700aaa : decode (ia_code 225) 53 = .ok (.aload_n 0, 1) := fdd_d (by decide +kernel)
set_option maxRecDepth 100000 in
theorem xd_df6ed28d : decode (ia_code 225) 54 = .ok (.getfield 79, 3) := fdd_d (by decide +kernel)
set_option maxRecDepth 100000 in
theorem xf_bb0d50bd : wk_gf 225 79 121 3 0 = true := by decide +kernel
set_option maxRecDepth 100000 in
theorem xd_301c7606 : decode (ia_code 225) 57 = .ok (.bipush 35, 2) := fdd_d (by decide +kernel)
set_option maxRecDepth 100000 in
theorem xd_37115e6a : decode (ia_code 225) 59 = .ok (.imul, 1) := fdd_d (by decide +kernel)
set_option maxRecDepth 100000 in
theorem xd_25a598f2 : decode (ia_code 225) 60 = .ok (.iload 4, 2) := fdd_d (by decide +kernel)
set_option maxRecDepth 100000 in
theorem xd_56ca5b26 : decode (ia_code 225) 62 = .ok (.iadd, 1) := fdd_d (by decide +kernel)
set_option maxRecDepth 100000 in
theorem xd_560e8a32 : decode (ia_code 225) 63 = .ok (.aload_n 1, 1) := fdd_d (by decide +kernel)
set_option maxRecDepth 100000 in
theorem xd_e11d557a : decode (ia_code 225) 64 = .ok (.getfield 43, 3) := fdd_d (by decide +kernel)
set_option maxRecDepth 100000 in
theorem xf_21a3579e : wk_gf 225 43 33 0 (4 + 3) = true := by decide +kernel
set_option maxRecDepth 100000 in
theorem xd_56522ba1 : decode (ia_code 225) 67 = .ok (.aload_n 1, 1) := fdd_d (by decide +kernel)
set_option maxRecDepth 100000 in
theorem xd_ce29b9ed : decode (ia_code 225) 68 = .ok (.getfield 85, 3) := fdd_d (by decide +kernel)
set_option maxRecDepth 100000 in
theorem xf_4e9c8a15 : wk_gf 225 85 33 4 (34 + 3) = true := by decide +kernel
set_option maxRecDepth 100000 in
theorem xd_1a7ebcf1 : decode (ia_code 225) 71 = .ok (.iload_n 3, 1) := fdd_d (by decide +kernel)
set_option maxRecDepth 100000 in
theorem xd_077e4f94 : decode (ia_code 225) 72 = .ok (.iaload, 1) := fdd_d (by decide +kernel)
set_option maxRecDepth 100000 in
theorem xd_49937ed1 : decode (ia_code 225) 73 = .ok (.iload 4, 2) := fdd_d (by decide +kernel)
set_option maxRecDepth 100000 in
theorem xl_6bb90c1f : ia_pl (ia_cls 225) 88 = some (1, 176, 1, 0, 1031) := by decide +kernel
set_option maxRecDepth 100000 in
theorem xd_a2391cef : decode (ia_code 225) 75 = .ok (.invokestatic 88, 3) := fdd_d (by decide +kernel)
set_option maxRecDepth 100000 in
theorem xs_177_09ff2f4b {a1 : Int32} {a2 : Int32} {w : cm_W} (h2 : 0 ≤ a2.toInt ∧ a2.toInt ≤ 192) (hG : sv_w sg w) : ∃ x : Int32, cm_C 2 177 [.inr (.inr (some 4)), .inl a1, .inl a2] w (some (.inl x), w) ∧ ((x.toInt = (-1) ∧ 1 ≤ a2.toInt ∧ a2.toInt ≤ 192) ∨ (0 ≤ x.toInt ∧ x.toInt ≤ 2147483647)) := by
  obtain ⟨r, w', hC, hG', hF, q, hq, hr, hp, hs⟩ := wk_use (d := 2) sm_177_09ff2f4b_ok (by decide) (as := [.inr (.inr (some 4)), .inl a1, .inl a2]) (w := w) ⟨rfl, sv_in_top _, hb_mk (lo := 2147483648) (hi := 2147483840) (by have := h2.1; omega) (by have := h2.2; omega), trivial⟩ (fun f hf => by
    rcases List.mem_cons.mp hf with rfl | hf
    · exact ⟨(sv_in_top _), .inl rfl, .inl rfl⟩
    cases hf) hG
  have ew : w' = w := Prod.ext (funext fun k => funext fun i => (hF k i (fun ⟨r, z, _⟩ => by cases z)).1) (funext fun k => funext fun i => (hF k i (fun ⟨r, z, _⟩ => by cases z)).2)
  subst ew
  simp only [sm_177_09ff2f4b, List.mem_cons, List.not_mem_nil, or_false] at hq
  rcases hq with rfl | rfl
  · obtain ⟨x, rfl, hx⟩ := wk_int hr
    have hx := hb_in hx
    have ra2 := hb_in (lo := 2147483649) (hi := 2147483840) (x := a2) hp.2.2.1
    exact ⟨x, hC, Or.inl ⟨by omega, by omega, by omega⟩⟩
  · obtain ⟨x, rfl, hx⟩ := wk_int hr
    have hx := hb_in hx
    exact ⟨x, hC, Or.inr (⟨by omega, by omega⟩)⟩
set_option maxRecDepth 100000 in
theorem xl_484c8420 : ia_pl (ia_cls 225) 91 = some (1, 177, 1, 0, 1036) := by decide +kernel
set_option maxRecDepth 100000 in
theorem xn_015c3def : ia_na 177 = 3 := by decide +kernel
set_option maxRecDepth 100000 in
theorem xc_5862be47 : ia_mc 177 = 0 ∧ ia_ms 177 = 0 := ⟨by decide +kernel, by decide +kernel⟩
set_option maxRecDepth 100000 in
theorem xd_fec0d36c : decode (ia_code 225) 78 = .ok (.invokestatic 91, 3) := fdd_d (by decide +kernel)
set_option maxRecDepth 100000 in
theorem xd_97832ac8 : decode (ia_code 225) 81 = .ok (.iastore, 1) := fdd_d (by decide +kernel)
set_option maxRecDepth 100000 in
theorem xf_0b8c45f3 : sv_gr sg 124 = [] := by decide +kernel
set_option maxRecDepth 100000 in
theorem xd_6b4e0366 : decode (ia_code 225) 82 = .ok (.iinc 4 1, 3) := fdd_d (by decide +kernel)
set_option maxRecDepth 100000 in
theorem xm_8f67b210 : ia_maxL 225 = 5 := by decide +kernel
set_option maxRecDepth 100000 in
theorem xd_900f166c : decode (ia_code 225) 85 = .ok (.goto (-43), 3) := fdd_d (by decide +kernel)
set_option maxRecDepth 100000 in
theorem xd_41aedf75 : decode (ia_code 225) 7 = .ok (.iload_n 3, 1) := fdd_d (by decide +kernel)
set_option maxRecDepth 100000 in
theorem xd_176d84f0 : decode (ia_code 225) 8 = .ok (.aload_n 1, 1) := fdd_d (by decide +kernel)
set_option maxRecDepth 100000 in
theorem xd_94b2e074 : decode (ia_code 225) 9 = .ok (.getfield 43, 3) := fdd_d (by decide +kernel)
set_option maxRecDepth 100000 in
theorem xd_18a7ab31 : decode (ia_code 225) 12 = .ok (.getfield 82, 3) := fdd_d (by decide +kernel)
set_option maxRecDepth 100000 in
theorem xf_9469c2da : wk_gf 225 82 4 3 0 = true := by decide +kernel
set_option maxRecDepth 100000 in
theorem xd_58d21247 : decode (ia_code 225) 15 = .ok (.if_icmp .ge 89, 3) := fdd_d (by decide +kernel)
set_option maxRecDepth 100000 in
theorem xd_0ce96ee3 : decode (ia_code 225) 18 = .ok (.iload_n 2, 1) := fdd_d (by decide +kernel)
set_option maxRecDepth 100000 in
theorem xd_aafaad87 : decode (ia_code 225) 19 = .ok (.iload_n 3, 1) := fdd_d (by decide +kernel)
set_option maxRecDepth 100000 in
theorem xd_d25512f9 : decode (ia_code 225) 20 = .ok (.ishr, 1) := fdd_d (by decide +kernel)
set_option maxRecDepth 100000 in
theorem xd_eeaf09da : decode (ia_code 225) 21 = .ok (.iconst 1, 1) := fdd_d (by decide +kernel)
set_option maxRecDepth 100000 in
theorem xd_1e3975a2 : decode (ia_code 225) 22 = .ok (.iand, 1) := fdd_d (by decide +kernel)
set_option maxRecDepth 100000 in
theorem xd_696257c3 : decode (ia_code 225) 23 = .ok (.ifCond .ne 6, 3) := fdd_d (by decide +kernel)
set_option maxRecDepth 100000 in
theorem xd_ef47ad12 : decode (ia_code 225) 29 = .ok (.aload_n 0, 1) := fdd_d (by decide +kernel)
set_option maxRecDepth 100000 in
theorem xd_cd54a6da : decode (ia_code 225) 30 = .ok (.getfield 19, 3) := fdd_d (by decide +kernel)
set_option maxRecDepth 100000 in
theorem xf_836e3d00 : wk_gf 225 19 121 4 (123 + 3) = true := by decide +kernel
set_option maxRecDepth 100000 in
theorem xd_834d58fa : decode (ia_code 225) 33 = .ok (.aload_n 0, 1) := fdd_d (by decide +kernel)
set_option maxRecDepth 100000 in
theorem xd_e0b00f3c : decode (ia_code 225) 34 = .ok (.getfield 79, 3) := fdd_d (by decide +kernel)
set_option maxRecDepth 100000 in
theorem xd_9eb250d4 : decode (ia_code 225) 37 = .ok (.iload_n 3, 1) := fdd_d (by decide +kernel)
set_option maxRecDepth 100000 in
theorem xd_ad902b60 : decode (ia_code 225) 38 = .ok (.iastore, 1) := fdd_d (by decide +kernel)
set_option maxRecDepth 100000 in
theorem xd_f1ffecbe : decode (ia_code 225) 39 = .ok (.iconst 0, 1) := fdd_d (by decide +kernel)
set_option maxRecDepth 100000 in
theorem xd_9c40fea0 : decode (ia_code 225) 40 = .ok (.istore 4, 2) := fdd_d (by decide +kernel)
set_option maxRecDepth 100000 in
theorem xd_7f02b777 : decode (ia_code 225) 88 = .ok (.aload_n 0, 1) := fdd_d (by decide +kernel)
set_option maxRecDepth 100000 in
theorem xd_a1ad5156 : decode (ia_code 225) 89 = .ok (.dup, 1) := fdd_d (by decide +kernel)
set_option maxRecDepth 100000 in
theorem xd_5b6e2314 : decode (ia_code 225) 90 = .ok (.getfield 79, 3) := fdd_d (by decide +kernel)
set_option maxRecDepth 100000 in
theorem xd_b6a3ba41 : decode (ia_code 225) 93 = .ok (.iconst 1, 1) := fdd_d (by decide +kernel)
set_option maxRecDepth 100000 in
theorem xd_1b29716d : decode (ia_code 225) 94 = .ok (.iadd, 1) := fdd_d (by decide +kernel)
set_option maxRecDepth 100000 in
theorem xd_bc8955d8 : decode (ia_code 225) 95 = .ok (.putfield 79, 3) := fdd_d (by decide +kernel)
set_option maxRecDepth 100000 in
theorem xf_f57e18f7 : wk_pf 225 79 121 3 0 = true := by decide +kernel
set_option maxRecDepth 100000 in
theorem xg_4850aefa : sv_g sg 121 3 = (2147483648, 2147483654) := by decide +kernel
set_option maxRecDepth 100000 in
theorem xd_a28938bc : decode (ia_code 225) 98 = .ok (.iinc 3 1, 3) := fdd_d (by decide +kernel)
set_option maxRecDepth 100000 in
theorem xd_7681cd96 : decode (ia_code 225) 101 = .ok (.goto (-94), 3) := fdd_d (by decide +kernel)
set_option maxRecDepth 100000 in
theorem xd_35abf707 : decode (ia_code 225) 26 = .ok (.goto 72, 3) := fdd_d (by decide +kernel)
set_option maxRecDepth 100000 in
theorem xd_6cb7ba84 : decode (ia_code 225) 106 = .ok (.iload_n 3, 1) := fdd_d (by decide +kernel)
set_option maxRecDepth 100000 in
theorem xd_bf0f4c6d : decode (ia_code 225) 107 = .ok (.iconst 4, 1) := fdd_d (by decide +kernel)
set_option maxRecDepth 100000 in
theorem xd_dca2f4c2 : decode (ia_code 225) 108 = .ok (.if_icmp .ge 36, 3) := fdd_d (by decide +kernel)
set_option maxRecDepth 100000 in
theorem xd_8688eeb0 : decode (ia_code 225) 111 = .ok (.aload_n 0, 1) := fdd_d (by decide +kernel)
set_option maxRecDepth 100000 in
theorem xd_dc64dee6 : decode (ia_code 225) 112 = .ok (.getfield 27, 3) := fdd_d (by decide +kernel)
set_option maxRecDepth 100000 in
theorem xf_718251e3 : wk_gf 225 27 121 6 (125 + 3) = true := by decide +kernel
set_option maxRecDepth 100000 in
theorem xd_9b77e69e : decode (ia_code 225) 115 = .ok (.iload_n 3, 1) := fdd_d (by decide +kernel)
set_option maxRecDepth 100000 in
theorem xd_ed92dfa3 : decode (ia_code 225) 116 = .ok (.iload_n 3, 1) := fdd_d (by decide +kernel)
set_option maxRecDepth 100000 in
theorem xd_5622b57a : decode (ia_code 225) 117 = .ok (.aload_n 1, 1) := fdd_d (by decide +kernel)
set_option maxRecDepth 100000 in
theorem xd_43d02ed1 : decode (ia_code 225) 118 = .ok (.getfield 43, 3) := fdd_d (by decide +kernel)
set_option maxRecDepth 100000 in
theorem xd_72b7d831 : decode (ia_code 225) 121 = .ok (.getfield 49, 3) := fdd_d (by decide +kernel)
set_option maxRecDepth 100000 in
theorem xf_7c784baa : wk_gf 225 49 4 4 0 = true := by decide +kernel
set_option maxRecDepth 100000 in
theorem xd_a99d5ddd : decode (ia_code 225) 124 = .ok (.if_icmp .ge 12, 3) := fdd_d (by decide +kernel)
set_option maxRecDepth 100000 in
theorem xd_2b42b750 : decode (ia_code 225) 136 = .ok (.iconst 0, 1) := fdd_d (by decide +kernel)
set_option maxRecDepth 100000 in
theorem xd_7073150b : decode (ia_code 225) 137 = .ok (.iastore, 1) := fdd_d (by decide +kernel)
set_option maxRecDepth 100000 in
theorem xd_4981ebdd : decode (ia_code 225) 138 = .ok (.iinc 3 1, 3) := fdd_d (by decide +kernel)
set_option maxRecDepth 100000 in
theorem xd_e2100b86 : decode (ia_code 225) 141 = .ok (.goto (-35), 3) := fdd_d (by decide +kernel)
set_option maxRecDepth 100000 in
theorem xd_0e3c1c52 : decode (ia_code 225) 127 = .ok (.aload_n 1, 1) := fdd_d (by decide +kernel)
set_option maxRecDepth 100000 in
theorem xd_82592557 : decode (ia_code 225) 128 = .ok (.getfield 95, 3) := fdd_d (by decide +kernel)
set_option maxRecDepth 100000 in
theorem xf_3bbf578b : wk_gf 225 95 33 7 (37 + 3) = true := by decide +kernel
set_option maxRecDepth 100000 in
theorem xd_42108b02 : decode (ia_code 225) 131 = .ok (.iload_n 3, 1) := fdd_d (by decide +kernel)
set_option maxRecDepth 100000 in
theorem xd_875a9961 : decode (ia_code 225) 132 = .ok (.iaload, 1) := fdd_d (by decide +kernel)
set_option maxRecDepth 100000 in
theorem xd_55491718 : decode (ia_code 225) 133 = .ok (.goto 4, 3) := fdd_d (by decide +kernel)
set_option maxRecDepth 100000 in
theorem xd_2ab4ee66 : decode (ia_code 225) 0 = .ok (.aload_n 0, 1) := fdd_d (by decide +kernel)
set_option maxRecDepth 100000 in
theorem xd_34dca812 : decode (ia_code 225) 1 = .ok (.iconst 0, 1) := fdd_d (by decide +kernel)
set_option maxRecDepth 100000 in
theorem xd_f8a103a6 : decode (ia_code 225) 2 = .ok (.putfield 79, 3) := fdd_d (by decide +kernel)
set_option maxRecDepth 100000 in
theorem xd_687d3b12 : decode (ia_code 225) 5 = .ok (.iconst 0, 1) := fdd_d (by decide +kernel)
set_option maxRecDepth 100000 in
theorem xd_f3175055 : decode (ia_code 225) 6 = .ok (.istore_n 3, 1) := fdd_d (by decide +kernel)
set_option maxRecDepth 100000 in
theorem xd_73f747ed : decode (ia_code 225) 104 = .ok (.iconst 0, 1) := fdd_d (by decide +kernel)
set_option maxRecDepth 100000 in
theorem xd_e0bb47b5 : decode (ia_code 225) 105 = .ok (.istore_n 3, 1) := fdd_d (by decide +kernel)
set_option maxRecDepth 100000 in
theorem xd_dbcfb8c3 : decode (ia_code 225) 144 = .ok (.return_, 1) := fdd_d (by decide +kernel)
set_option maxRecDepth 100000 in
theorem xr_6629085e : ia_ret 225 = none := by decide +kernel
theorem jsl_i {w : cm_W} {pc s : Nat} {pv q : Int32} (hpc : pc ≤ 35) (hs : s < 6) (hpv : pv.toInt = ((pc : Int) : Int)) (hq : q.toInt = ((s : Int) : Int)) (Q : cm_O → Prop) (hk71 : ∀ le z : Int32, 0 ≤ le.toInt → le.toInt ≤ 31 → (∀ k', k' < pc → (w.1 124 (35 * s + k')).toInt = (w.1 121 8).toInt → le.toInt ≤ jP k') → cm_X (cm_C 1) 228 71 [some (.inr (.inr (some 121))), some (.inl pv), some (.inl q), some (.inl le), some (.inl z)] [] w Q) : ∀ (n k : Nat) (le z : Int32), n + k = pc → z.toInt = (k : Int) → 0 ≤ le.toInt → le.toInt ≤ 31 → (∀ k', k' < k → (w.1 124 (35 * s + k')).toInt = (w.1 121 8).toInt → le.toInt ≤ jP k') → cm_X (cm_C 1) 228 27 [some (.inr (.inr (some 121))), some (.inl pv), some (.inl q), some (.inl le), some (.inl z)] [] w Q := by
  intro n
  induction n with
  | zero =>
    intro k le z hi hz h0 h1 hle
    refine wk_iload xd_62dec4e8 rfl ?_
    refine wk_iload_n xd_456bf141 rfl ?_
    refine wk_icmp xd_bd490908 (t := 71) rfl (fun h30_0 => ?_) (fun h30_0 => ?_)
    · have h30_0 := aw_ge_t (a := ((k : Int) : Int)) (b := ((pc : Int) : Int)) hz hpv h30_0
      exact hk71 le z h0 h1 (fun k' hk' hd => hle k' (by omega) hd)
    · have h30_0 := aw_ge_f (a := ((k : Int) : Int)) (b := ((pc : Int) : Int)) hz hpv h30_0
      exfalso
      omega
  | succ n ih =>
    intro k le z hi hz h0 h1 hle
    refine wk_iload xd_62dec4e8 rfl ?_
    refine wk_iload_n xd_456bf141 rfl ?_
    refine wk_icmp xd_bd490908 (t := 71) rfl (fun h30_1 => ?_) (fun h30_1 => ?_)
    · have h30_1 := aw_ge_t (a := ((k : Int) : Int)) (b := ((pc : Int) : Int)) hz hpv h30_1
      exfalso
      omega
    · have h30_1 := aw_ge_f (a := ((k : Int) : Int)) (b := ((pc : Int) : Int)) hz hpv h30_1
      refine wk_aload_n xd_4e02fe74 rfl ?_
      refine wk_getR xf_d3c35aa2 xd_d2582469 ?_
      refine wk_iload_n xd_6e9ddfea rfl ?_
      refine wk_bipush xd_3b6e5950 ?_
      refine aw_imul (a := ((s : Int) : Int)) (b := (35 : Int)) (e := (35 * (s : Int) : Int)) xd_ea3a171f hq (show (((Int8.ofInt 35).toInt32)).toInt = 35 from by decide) (by omega) (by omega) (by omega) (fun v3_ p3_ => ?_)
      refine wk_iload xd_e6129bae rfl ?_
      refine aw_iadd (a := (35 * (s : Int) : Int)) (b := ((k : Int) : Int)) (e := (35 * (s : Int) + (k : Int) : Int)) xd_3fe63af6 p3_ hz (by omega) (by omega) (by omega) (fun v4_ p4_ => ?_)
      refine aw_iaload (i := (35 * s + k)) xf_59f00e87 p4_ (by omega) (by omega) xd_c26d9764 ?_
      refine wk_aload_n xd_92d0bb79 rfl ?_
      refine wk_getI xf_a9bbdb8b xd_8e2ccea4 ?_
      refine wk_icmp xd_0d7beeb8 (t := 65) rfl (fun h49_4 => ?_) (fun h49_4 => ?_)
      · have h49_4 := aw_ne_t (a := ((w.1 124 (35 * s + k)).toInt : Int)) (b := ((w.1 121 8).toInt : Int)) rfl rfl h49_4
        refine aw_iinc (a := ((k : Int) : Int)) (b := (1 : Int)) (e := ((k : Int) + 1 : Int)) xd_7b44118f (by rw [xm_77f776a1]; rfl) rfl rfl hz (show ((Int32.ofInt 1)).toInt = 1 from by decide) (by omega) (by omega) (by omega) (fun v6_ p6_ => ?_)
        refine wk_goto xd_aaf46e31 (t := 27) rfl ?_
        exact ih (k + 1) _ _ (by omega) (by rw [p6_]; omega) (by omega) (by omega) (fun k' hk' hd => by
          by_cases e : k' = k
          · subst e
            omega
          · have := hle k' (by omega) hd
            omega)
      · have h49_4 := aw_ne_f (a := ((w.1 124 (35 * s + k)).toInt : Int)) (b := ((w.1 121 8).toInt : Int)) rfl rfl h49_4
        refine wk_iload_n xd_78efef4d rfl ?_
        refine wk_iload xd_15fefe13 rfl ?_
        refine wk_call (kd := 1) (i := 88) xd_5b258819 rfl (wk_cal (as := [.inl z]) (t := [.inl le]) xl_ea645ef9 rfl xn_d2327573 xc_fe717d23 rfl rfl rfl rfl) (cm_C_mono (by omega) (jat_ok w z)) ?_
        refine wk_call (kd := 1) (i := 101) xd_04354747 rfl (wk_cal (as := [.inl (cm_pr ia_arA z)]) (t := [.inl le]) xl_b9d69ea8 rfl xn_d6e46166 xc_19eec36c rfl rfl rfl rfl) (cm_C_mono (by omega) (jpi_ok w (cm_pr ia_arA z))) ?_
        have hp : (jpi (cm_pr ia_arA z)).toInt = jP k := by rw [hk_of hz (by omega)]; rfl
        have hpi := jP_in k
        refine aw_min (a := ((le).toInt : Int)) (b := ((jP k) : Int)) xl_6849019d rfl xd_3c86a214 rfl hp (fun v7_ p7_ => ?_)
        refine wk_istore_n xd_dfd928df (by rw [xm_77f776a1]; rfl) rfl ?_
        refine aw_iinc (a := ((k : Int) : Int)) (b := (1 : Int)) (e := ((k : Int) + 1 : Int)) xd_7b44118f (by rw [xm_77f776a1]; rfl) rfl rfl hz (show ((Int32.ofInt 1)).toInt = 1 from by decide) (by omega) (by omega) (by omega) (fun v8_ p8_ => ?_)
        refine wk_goto xd_aaf46e31 (t := 27) rfl ?_
        exact ih (k + 1) _ _ (by omega) (by rw [p8_]; omega) (by omega) (by omega) (fun k' hk' hd => by
          by_cases e : k' = k
          · subst e
            omega
          · have := hle k' (by omega) hd
            omega)
theorem jsl_o {w0 : cm_W} {S pc : Nat} {pv : Int32} (hS : S ≤ 6) (hpc : pc ≤ 35) (hpv : pv.toInt = ((pc : Int) : Int)) (Q : cm_O → Prop) (hk : ∀ w, jOut 126 w0 w 0 → ((w.1 126 S).toInt = 0 ∧ ∀ s, 0 ≤ s → s < S → 0 ≤ (w.1 126 s).toInt ∧ (w.1 126 s).toInt ≤ 31 ∧ ∀ k, k < pc → (w.1 124 (35 * s + k)).toInt = (w.1 121 8).toInt → (w.1 126 s).toInt ≤ jP k + (w.1 126 (s + 1)).toInt) → sv_w sg w → Q (none, w)) : ∀ (m : Nat) (q : Int32) (o3 o4 : Option cm_V) (w : cm_W), q.toInt = (m : Int) - 1 → jOut 126 w0 w 0 → ((w.1 126 S).toInt = 0 ∧ ∀ s, m ≤ s → s < S → 0 ≤ (w.1 126 s).toInt ∧ (w.1 126 s).toInt ≤ 31 ∧ ∀ k, k < pc → (w.1 124 (35 * s + k)).toInt = (w.1 121 8).toInt → (w.1 126 s).toInt ≤ jP k + (w.1 126 (s + 1)).toInt) → sv_w sg w → m ≤ S → cm_X (cm_C 1) 228 17 [some (.inr (.inr (some 121))), some (.inl pv), some (.inl q), o3, o4] [] w Q := by
  intro m
  induction m with
  | zero =>
    intro q o3 o4 w hq hF hL hG _
    have hq : q.toInt = (-1 : Int) := hq.trans (by omega)
    refine wk_iload_n xd_b7a613e5 rfl ?_
    refine wk_if xd_465d2d45 (t := 98) rfl (fun _ => ?_) (fun h => absurd (aw_lt_f hq hb_z h) (by omega))
    exact wk_return xd_fdc59cc9 xr_fd2c1d8f (hk w hF hL hG)
  | succ s ih =>
    intro q o3 o4 w hq hF hL hG hmS
    have ih := fun q o3 o4 w a b c d => ih q o3 o4 w a b c d (by omega)
    have hq : q.toInt = ((s : Int) : Int) := hq.trans (by omega)
    refine wk_iload_n xd_b7a613e5 rfl ?_
    refine wk_if xd_465d2d45 (t := 98) rfl (fun h18_0 => ?_) (fun h18_0 => ?_)
    · have h18_0 := aw_lt_t (a := ((s : Int) : Int)) (b := (0 : Int)) hq hb_z h18_0
      exfalso
      omega
    · have h18_0 := aw_lt_f (a := ((s : Int) : Int)) (b := (0 : Int)) hq hb_z h18_0
      refine wk_bipush xd_d4013345 ?_
      refine wk_istore_n xd_157c5553 (by rw [xm_77f776a1]; rfl) rfl ?_
      refine wk_iconst xd_00e6ca5f ?_
      refine wk_istore xd_a2a366ef (by rw [xm_77f776a1]; rfl) rfl ?_
      refine jsl_i hpc (by omega) hpv hq _ (fun le z h0 h1 hle => ?_) pc 0 _ _ (by omega) (by decide) (by decide) (by decide) (fun k' hk' => absurd hk' (Nat.not_lt_zero k'))
      have hn1 : 0 ≤ (w.1 126 (1 + s)).toInt ∧ (w.1 126 (1 + s)).toInt ≤ 31 ∧ (w.1 126 (s + 1)).toInt = (w.1 126 (1 + s)).toInt := by
        rw [show s + 1 = 1 + s from by omega]
        by_cases e : 1 + s = S
        · rw [e, hL.1]; omega
        · have := hL.2 (1 + s) (by omega) (by omega)
          omega
      refine wk_aload_n xd_ca92b3c2 rfl ?_
      refine wk_getR xf_7ac68a3b xd_adcbab74 ?_
      refine wk_iload_n xd_ea0d925c rfl ?_
      refine wk_bipush xd_4a9b5093 ?_
      refine wk_iload_n xd_4cfbb38d rfl ?_
      refine wk_aload_n xd_ca2bf0e4 rfl ?_
      refine wk_getR xf_7ac68a3b xd_b047dbb3 ?_
      refine wk_iload_n xd_e4d2ebef rfl ?_
      refine wk_iconst xd_d0a97320 ?_
      refine aw_iadd (a := ((s : Int) : Int)) (b := (1 : Int)) (e := ((s : Int) + 1 : Int)) xd_d1539614 hq (show ((Int32.ofInt 1)).toInt = 1 from by decide) (by omega) (by omega) (by omega) (fun v61_ p61_ => ?_)
      refine aw_iaload (i := (1 + s)) xf_79fd7716 p61_ (by omega) (by omega) xd_3fa8ec25 ?_
      refine aw_iadd (a := ((le).toInt : Int)) (b := ((w.1 126 (1 + s)).toInt : Int)) (e := ((le).toInt + (w.1 126 (1 + s)).toInt : Int)) xd_d487fd97 rfl rfl (by omega) (by omega) (by omega) (fun v62_ p62_ => ?_)
      refine aw_min (a := (31 : Int)) (b := ((le).toInt + (w.1 126 (1 + s)).toInt : Int)) xl_6849019d rfl xd_4069eaa3 (show (((Int8.ofInt 31).toInt32)).toInt = 31 from by decide) p62_ (fun v63_ p63_ => ?_)
      refine aw_iastore (i := s) xf_79fd7716 hq (by omega) (by omega) xd_f296074a ?_
      have hG64_ : sv_w sg (cm_u1 w 126 s v63_) := sv_w_u1 hG (by rw [aw_tv2 xf_4644e4f8]; exact sv_in_top _)
      refine aw_iinc (a := ((s : Int) : Int)) (b := ((-1) : Int)) (e := ((s : Int) + (-1) : Int)) xd_e7f7cd1f (by rw [xm_77f776a1]; rfl) rfl rfl hq (show ((Int32.ofInt (-1))).toInt = (-1) from by decide) (by omega) (by omega) (by omega) (fun v65_ p65_ => ?_)
      refine wk_goto xd_64668dbd (t := 17) rfl ?_
      refine ih _ _ _ _ (by rw [p65_]; omega) (fun k i hk => (hs_u1_ne (by omega)).trans (hF k i hk)) ⟨by rw [hs_u1_ne (by omega)]; exact hL.1, fun s' h1' h2' => ?_⟩ hG64_
      have u1 : ∀ j, j ≠ s → (cm_u1 w 126 s v63_).1 126 j = w.1 126 j := fun j hj => hs_u1_ne (by omega)
      have u2 : ∀ j, (cm_u1 w 126 s v63_).1 124 j = w.1 124 j := fun j => hs_u1_ne (by omega)
      have u3 : (cm_u1 w 126 s v63_).1 121 8 = w.1 121 8 := hs_u1_ne (by omega)
      have u4 : (cm_u1 w 126 s v63_).1 126 s = v63_ := hs_u1_self
      by_cases e : s' = s
      · rw [e, u4, u1 (s + 1) (by omega)]
        refine ⟨by omega, by omega, fun k hk hd => ?_⟩
        rw [u2, u3] at hd
        have := hle k hk hd
        omega
      · rw [u1 s' e, u1 (s' + 1) (by omega)]
        obtain ⟨a1, a2, a3⟩ := hL.2 s' (by omega) h2'
        exact ⟨a1, a2, fun k hk hd => a3 k hk (by rw [u2, u3] at hd; exact hd)⟩
theorem jsl_ok {w : cm_W} {S pc : Nat} {pv : Int32} (hS : S ≤ 6) (hpc : pc ≤ 35) (hpv : pv.toInt = ((pc : Int) : Int)) (e1 : (w.1 121 3).toInt = ((S : Int) : Int)) (hG : sv_w sg w) : ∃ w', cm_C 2 228 [.inr (.inr (some 121)), .inl pv] w (none, w') ∧ sv_w sg w' ∧ (∀ k i, k ≠ 126 → w'.1 k i = w.1 k i) ∧ ((w'.1 126 S).toInt = 0 ∧ ∀ s, 0 ≤ s → s < S → 0 ≤ (w'.1 126 s).toInt ∧ (w'.1 126 s).toInt ≤ 31 ∧ ∀ k, k < pc → (w'.1 124 (35 * s + k)).toInt = (w'.1 121 8).toInt → (w'.1 126 s).toInt ≤ jP k + (w'.1 126 (s + 1)).toInt) := by
  have h : ∃ o, cm_C (1 + 1) 228 [.inr (.inr (some 121)), .inl pv] w o ∧ (fun o : cm_O => ∃ w', o = (none, w') ∧ sv_w sg w' ∧ (∀ k i, k ≠ 126 → w'.1 k i = w.1 k i) ∧ ((w'.1 126 S).toInt = 0 ∧ ∀ s, 0 ≤ s → s < S → 0 ≤ (w'.1 126 s).toInt ∧ (w'.1 126 s).toInt ≤ 31 ∧ ∀ k, k < pc → (w'.1 124 (35 * s + k)).toInt = (w'.1 121 8).toInt → (w'.1 126 s).toInt ≤ jP k + (w'.1 126 (s + 1)).toInt)) o := by
    refine wk_entry (by rw [xm_77f776a1]; exact Nat.le_of_ble_eq_true rfl) ?_
    rw [show cm_ent 228 [.inr (.inr (some 121)), .inl pv] = [some (.inr (.inr (some 121))), some (.inl pv), none, none, none] from by unfold cm_ent; rw [xm_77f776a1]; rfl]
    refine wk_aload_n xd_b214f393 rfl ?_
    refine wk_getR xf_7ac68a3b xd_e8d1d82a ?_
    refine wk_aload_n xd_b2485200 rfl ?_
    refine wk_getI xf_8c26c082 xd_85edb2b6 ?_
    refine wk_iconst xd_e88aa390 ?_
    refine aw_iastore (i := S) xf_79fd7716 (show ((w.1 121 3)).toInt = ((S : Int) : Int) from e1) (by omega) (by omega) xd_b4e974f6 ?_
    have hG1_ : sv_w sg (cm_u1 w 126 S (Int32.ofInt 0)) := sv_w_u1 hG (by rw [aw_tv2 xf_4644e4f8]; exact sv_in_top _)
    refine wk_aload_n xd_e1dc0b46 rfl ?_
    refine wk_getI xf_8c26c082 xd_3179e0f1 ?_
    refine wk_iconst xd_4b63dad2 ?_
    refine aw_isub (a := ((S : Int) : Int)) (b := (1 : Int)) (e := ((S : Int) + (-1) : Int)) xd_b89ba2b0 (show (((cm_u1 w 126 S (Int32.ofInt 0)).1 121 3)).toInt = ((S : Int) : Int) from e1) (show ((Int32.ofInt 1)).toInt = 1 from by decide) (by omega) (by omega) (by omega) (fun v2_ p2_ => ?_)
    refine wk_istore_n xd_f5d231c8 (by rw [xm_77f776a1]; rfl) rfl ?_
    exact jsl_o (w0 := (cm_u1 w 126 S (Int32.ofInt 0))) (S := S) hS hpc hpv _ (fun w2 a b c => ⟨w2, rfl, c, fun k i hk => (a k i hk).trans (hs_u1_ne (by omega)), b⟩) S _ _ _ (cm_u1 w 126 S (Int32.ofInt 0)) (p2_.trans (by omega)) (fun _ _ _ => rfl) ⟨by rw [hs_u1_self]; decide, fun s h1 h2 => absurd h1 (by omega)⟩ hG1_ (Nat.le_refl S)
  obtain ⟨o, hC, w', rfl, a⟩ := h
  exact ⟨w', hC, a⟩
theorem jse_d (w1 : cm_W) (st p : Int32) (P c : Nat) (hP6 : P < 6) (hc6 : c < 6) (hp : p.toInt = ((P : Int) : Int)) (hc1 : (w1.1 121 3).toInt = (c : Int)) (Q : cm_O → Prop) (hk : ∀ w z, jOut 124 w1 w (35) → sv_w sg w → cm_X (cm_C 3) 225 88 [some (.inr (.inr (some 121))), some (.inr (.inr (some 33))), some (.inl st), some (.inl p), some (.inl z)] [] w Q) : ∀ (n i : Nat) (z : Int32) (w : cm_W), n + i = 35 → z.toInt = (i : Int) → jOut 124 w1 w (i) → sv_w sg w → cm_X (cm_C 3) 225 42 [some (.inr (.inr (some 121))), some (.inr (.inr (some 33))), some (.inl st), some (.inl p), some (.inl z)] [] w Q := by
  intro n
  induction n with
  | zero =>
    intro i z w hi hz hP hG
    have hcw : (w.1 121 3).toInt = ((c : Int) : Int) := by rw [hP 121 3 (by decide)]; exact hc1
    refine wk_iload xd_ef31500f rfl ?_
    refine wk_bipush xd_c7dc2a1c ?_
    refine wk_icmp xd_6e775fff (t := 88) rfl (fun h46_0 => ?_) (fun h46_0 => ?_)
    · have h46_0 := aw_ge_t (a := ((i : Int) : Int)) (b := (35 : Int)) hz (show (((Int8.ofInt 35).toInt32)).toInt = 35 from by decide) h46_0
      exact hk w z (by have e : i = 35 := (by omega); subst e; exact hP) hG
    · have h46_0 := aw_ge_f (a := ((i : Int) : Int)) (b := (35 : Int)) hz (show (((Int8.ofInt 35).toInt32)).toInt = 35 from by decide) h46_0
      exfalso
      omega
  | succ n ih =>
    intro i z w hi hz hP hG
    have hcw : (w.1 121 3).toInt = ((c : Int) : Int) := by rw [hP 121 3 (by decide)]; exact hc1
    refine wk_iload xd_ef31500f rfl ?_
    refine wk_bipush xd_c7dc2a1c ?_
    refine wk_icmp xd_6e775fff (t := 88) rfl (fun h46_1 => ?_) (fun h46_1 => ?_)
    · have h46_1 := aw_ge_t (a := ((i : Int) : Int)) (b := (35 : Int)) hz (show (((Int8.ofInt 35).toInt32)).toInt = 35 from by decide) h46_1
      exfalso
      omega
    · have h46_1 := aw_ge_f (a := ((i : Int) : Int)) (b := (35 : Int)) hz (show (((Int8.ofInt 35).toInt32)).toInt = 35 from by decide) h46_1
      refine wk_aload_n xd_5f7aff42 rfl ?_
      refine wk_getR xf_1e8cfc2c xd_8c8ecd74 ?_
      refine wk_aload_n xd_33700aaa rfl ?_
      refine wk_getI xf_bb0d50bd xd_df6ed28d ?_
      refine wk_bipush xd_301c7606 ?_
      refine aw_imul (a := ((c : Int) : Int)) (b := (35 : Int)) (e := (35 * (c : Int) : Int)) xd_37115e6a (show ((w.1 121 3)).toInt = ((c : Int) : Int) from hcw) (show (((Int8.ofInt 35).toInt32)).toInt = 35 from by decide) (by omega) (by omega) (by omega) (fun v3_ p3_ => ?_)
      refine wk_iload xd_25a598f2 rfl ?_
      refine aw_iadd (a := (35 * (c : Int) : Int)) (b := ((i : Int) : Int)) (e := (35 * (c : Int) + (i : Int) : Int)) xd_56ca5b26 p3_ hz (by omega) (by omega) (by omega) (fun v4_ p4_ => ?_)
      refine wk_aload_n xd_560e8a32 rfl ?_
      refine wk_getR xf_21a3579e xd_e11d557a ?_
      refine wk_aload_n xd_56522ba1 rfl ?_
      refine wk_getR xf_4e9c8a15 xd_ce29b9ed ?_
      refine wk_iload_n xd_1a7ebcf1 rfl ?_
      refine aw_iaload (i := P) xf_34c2cae4 hp (by omega) (by omega) xd_077e4f94 ?_
      refine wk_iload xd_49937ed1 rfl ?_
      refine wk_call (kd := 1) (i := 88) xd_a2391cef rfl (wk_cal (as := [.inl z]) (t := [.inl (w.1 34 P), .inr (.inr (some 4)), .inl v4_, .inr (.inr (some 124))]) xl_6bb90c1f rfl xn_d2327573 xc_fe717d23 rfl rfl rfl rfl) (cm_C_mono (by omega) (jat_ok w z)) ?_
      have hat := hb_in (hs_pr (by decide) hs_arA z)
      obtain ⟨xc5_, hCc5_, hxc5_⟩ := xs_177_09ff2f4b (w := w) (a1 := (w.1 34 P)) (a2 := (cm_pr ia_arA z)) (by have e9 : ((cm_pr ia_arA z)).toInt = ((cm_pr ia_arA z).toInt : Int) := rfl; exact ⟨by omega, by omega⟩) hG
      refine wk_call (kd := 1) (i := 91) xd_fec0d36c rfl (wk_cal (as := [.inr (.inr (some 4)), .inl (w.1 34 P), .inl (cm_pr ia_arA z)]) (t := [.inl v4_, .inr (.inr (some 124))]) xl_484c8420 rfl xn_015c3def xc_5862be47 rfl rfl rfl rfl) (cm_C_mono (by omega) hCc5_) ?_
      refine aw_iastore (i := (35 * c + i)) xf_59f00e87 p4_ (by omega) (by omega) xd_97832ac8 ?_
      have hG6_ : sv_w sg (cm_u1 w 124 (35 * c + i) xc5_) := sv_w_u1 hG (by rw [aw_tv2 xf_0b8c45f3]; exact sv_in_top _)
      refine aw_iinc (a := ((i : Int) : Int)) (b := (1 : Int)) (e := ((i : Int) + 1 : Int)) xd_6b4e0366 (by rw [xm_8f67b210]; rfl) rfl rfl hz (show ((Int32.ofInt 1)).toInt = 1 from by decide) (by omega) (by omega) (by omega) (fun v7_ p7_ => ?_)
      refine wk_goto xd_900f166c (t := 42) rfl ?_
      refine ih (i + 1) _ _ (by omega) (by rw [p7_]; omega) ?_ hG6_
      exact fun k j hk => (hs_u1_ne (fun z => hk z.1)).trans (hP k j hk)
theorem jse_p (w1 : cm_W) (st : Int32) (N : Nat) (hN6 : N ≤ 6) (hN : (w1.1 4 3).toInt = (N : Int)) (Q : cm_O → Prop) (hk : ∀ w c p o4, c ≤ 6 → (w.1 121 3).toInt = ((c : Nat) : Int) → (∀ i j, i < j → j < c → (w.1 123 i).toInt < (w.1 123 j).toInt) → (∀ k i, ¬ (k = 121 ∧ i = 3) → k ≠ 123 → k ≠ 124 → w.1 k i = w1.1 k i) → sv_w sg w → cm_X (cm_C 3) 225 104 [some (.inr (.inr (some 121))), some (.inr (.inr (some 33))), some (.inl st), some (.inl p), o4] [] w Q) : ∀ (n P c : Nat) (p : Int32) (o4 : Option cm_V) (w : cm_W), n + P = N → c ≤ P → p.toInt = (P : Int) → (w.1 121 3).toInt = ((c : Int) : Int) → (∀ i, i < c → 0 ≤ (w.1 123 i).toInt ∧ (w.1 123 i).toInt < (P : Int)) ∧ (∀ i j, i < j → j < c → (w.1 123 i).toInt < (w.1 123 j).toInt) → (∀ k i, ¬ (k = 121 ∧ i = 3) → k ≠ 123 → k ≠ 124 → w.1 k i = w1.1 k i) → sv_w sg w → cm_X (cm_C 3) 225 7 [some (.inr (.inr (some 121))), some (.inr (.inr (some 33))), some (.inl st), some (.inl p), o4] [] w Q := by
  intro n
  induction n with
  | zero =>
    intro P c p o4 w hi hcP hp hc hgu hF hG
    have eN : (w.1 4 3).toInt = ((N : Int) : Int) := by rw [hF 4 3 (by omega) (by omega) (by omega)]; exact hN
    refine wk_iload_n xd_41aedf75 rfl ?_
    refine wk_aload_n xd_176d84f0 rfl ?_
    refine wk_getR xf_21a3579e xd_94b2e074 ?_
    refine wk_getI xf_9469c2da xd_18a7ab31 ?_
    refine wk_icmp xd_58d21247 (t := 104) rfl (fun h15_0 => ?_) (fun h15_0 => ?_)
    · have h15_0 := aw_ge_t (a := ((P : Int) : Int)) (b := ((N : Int) : Int)) hp (show ((w.1 4 3)).toInt = ((N : Int) : Int) from eN) h15_0
      exact hk w c p _ (by omega) hc hgu.2 hF hG
    · have h15_0 := aw_ge_f (a := ((P : Int) : Int)) (b := ((N : Int) : Int)) hp (show ((w.1 4 3)).toInt = ((N : Int) : Int) from eN) h15_0
      exfalso
      omega
  | succ n ih =>
    intro P c p o4 w hi hcP hp hc hgu hF hG
    have eN : (w.1 4 3).toInt = ((N : Int) : Int) := by rw [hF 4 3 (by omega) (by omega) (by omega)]; exact hN
    refine wk_iload_n xd_41aedf75 rfl ?_
    refine wk_aload_n xd_176d84f0 rfl ?_
    refine wk_getR xf_21a3579e xd_94b2e074 ?_
    refine wk_getI xf_9469c2da xd_18a7ab31 ?_
    refine wk_icmp xd_58d21247 (t := 104) rfl (fun h15_1 => ?_) (fun h15_1 => ?_)
    · have h15_1 := aw_ge_t (a := ((P : Int) : Int)) (b := ((N : Int) : Int)) hp (show ((w.1 4 3)).toInt = ((N : Int) : Int) from eN) h15_1
      exfalso
      omega
    · have h15_1 := aw_ge_f (a := ((P : Int) : Int)) (b := ((N : Int) : Int)) hp (show ((w.1 4 3)).toInt = ((N : Int) : Int) from eN) h15_1
      refine wk_iload_n xd_0ce96ee3 rfl ?_
      refine wk_iload_n xd_aafaad87 rfl ?_
      refine wk_ishr xd_d25512f9 ?_
      refine wk_iconst xd_eeaf09da ?_
      refine wk_iand xd_1e3975a2 ?_
      refine wk_if xd_696257c3 (t := 29) rfl (fun h23_2 => ?_) (fun h23_2 => ?_)
      · have h23_2 := aw_ne_t (a := (((st >>> (p &&& 31)) &&& (Int32.ofInt 1)).toInt : Int)) (b := (0 : Int)) rfl hb_z h23_2
        refine wk_aload_n xd_ef47ad12 rfl ?_
        refine wk_getR xf_836e3d00 xd_cd54a6da ?_
        refine wk_aload_n xd_834d58fa rfl ?_
        refine wk_getI xf_bb0d50bd xd_e0b00f3c ?_
        refine wk_iload_n xd_9eb250d4 rfl ?_
        refine aw_iastore (i := c) xf_a878c49b (show ((w.1 121 3)).toInt = ((c : Int) : Int) from hc) (by omega) (by omega) xd_ad902b60 ?_
        have hG4_ : sv_w sg (cm_u1 w 123 c p) := sv_w_u1 hG (by rw [xh_0b8ae44d c (by omega)]; exact hb_mk (by rw [hp]; omega) (by rw [hp]; omega))
        refine wk_iconst xd_f1ffecbe ?_
        refine wk_istore xd_9c40fea0 (by rw [xm_8f67b210]; rfl) rfl ?_
        refine jse_d (cm_u1 w 123 c p) st p P c (by omega) (by omega) hp hc _ (fun w2 z hP2 hG2 => ?_) 35 0 _ (cm_u1 w 123 c p) (by omega) (by decide) (fun _ _ _ => rfl) hG4_
        have hc2 : (w2.1 121 3).toInt = ((c : Int) : Int) := by rw [hP2 121 3 (by decide), hs_u1_ne (by omega)]; exact hc
        refine wk_aload_n xd_7f02b777 rfl ?_
        refine wk_dup_r xd_a1ad5156 ?_
        refine wk_getI xf_bb0d50bd xd_5b6e2314 ?_
        refine wk_iconst xd_b6a3ba41 ?_
        refine aw_iadd (a := ((c : Int) : Int)) (b := (1 : Int)) (e := ((c : Int) + 1 : Int)) xd_1b29716d (show ((w2.1 121 3)).toInt = ((c : Int) : Int) from hc2) (show ((Int32.ofInt 1)).toInt = 1 from by decide) (by omega) (by omega) (by omega) (fun v55_ p55_ => ?_)
        refine wk_putI xf_f57e18f7 (fun ci => wk_fitI ci) xd_bc8955d8 ?_
        have hG56_ : sv_w sg (cm_u1 w2 121 3 v55_) := sv_w_u1 hG2 (by rw [xg_4850aefa]; exact hb_mk (by rw [p55_]; omega) (by rw [p55_]; omega))
        refine aw_iinc (a := ((P : Int) : Int)) (b := (1 : Int)) (e := ((P : Int) + 1 : Int)) xd_a28938bc (by rw [xm_8f67b210]; rfl) rfl rfl hp (show ((Int32.ofInt 1)).toInt = 1 from by decide) (by omega) (by omega) (by omega) (fun v57_ p57_ => ?_)
        refine wk_goto xd_7681cd96 (t := 7) rfl ?_
        refine ih (P + 1) (c + 1) _ _ _ (by omega) (by omega) (by rw [p57_]; omega) (by rw [hs_u1_self]; exact p55_) ?_ ?_ hG56_
        · have hb : ∀ i, i < c + 1 → ((cm_u1 w2 121 3 v55_).1 123 i) = if i = c then p else w.1 123 i := fun i hi => by
            rw [hs_u1_ne (by omega), hP2 123 i (by decide)]
            by_cases e : i = c
            · rw [e, hs_u1_self, if_pos rfl]
            · rw [hs_u1_ne (by omega), if_neg e]
          refine ⟨fun i hi => ?_, fun i j hij hj => ?_⟩
          · rw [hb i hi]
            by_cases e : i = c
            · rw [if_pos e, hp]; omega
            · rw [if_neg e]
              have := hgu.1 i (by omega)
              omega
          · rw [hb i (by omega), hb j hj, if_neg (by omega)]
            by_cases e : j = c
            · rw [if_pos e, hp]
              exact (hgu.1 i (by omega)).2
            · rw [if_neg e]
              exact hgu.2 i j hij (by omega)
        · exact fun k i k1 k2 k3 => by
            rw [hs_u1_ne (by omega), hP2 k i k3, hs_u1_ne (by omega)]
            exact hF k i k1 k2 k3
      · have h23_2 := aw_ne_f (a := (((st >>> (p &&& 31)) &&& (Int32.ofInt 1)).toInt : Int)) (b := (0 : Int)) rfl hb_z h23_2
        refine wk_goto xd_35abf707 (t := 98) rfl ?_
        refine aw_iinc (a := ((P : Int) : Int)) (b := (1 : Int)) (e := ((P : Int) + 1 : Int)) xd_a28938bc (by rw [xm_8f67b210]; rfl) rfl rfl hp (show ((Int32.ofInt 1)).toInt = 1 from by decide) (by omega) (by omega) (by omega) (fun v5_ p5_ => ?_)
        refine wk_goto xd_7681cd96 (t := 7) rfl ?_
        exact ih (P + 1) c _ _ w (by omega) (by omega) (by rw [p5_]; omega) hc ⟨fun i hi => by have := hgu.1 i hi; omega, hgu.2⟩ hF hG
def jLt (w1 w : cm_W) (i : Nat) : Prop := (∀ k j, k ≠ 125 → w.1 k j = w1.1 k j) ∧ ∀ f, f < i → 0 ≤ (w.1 125 f).toInt ∧ (w.1 125 f).toInt ≤ 5
theorem jse_l (w1 : cm_W) (st : Int32) (o4 : Option cm_V) (Fd : Nat) (hf : (w1.1 4 4).toInt = (Fd : Int)) (hL : jL 37 4 w1) (Q : cm_O → Prop) (hk : ∀ w z, jLt w1 w (4) → sv_w sg w → cm_X (cm_C 3) 225 144 [some (.inr (.inr (some 121))), some (.inr (.inr (some 33))), some (.inl st), some (.inl z), o4] [] w Q) : ∀ (n i : Nat) (z : Int32) (w : cm_W), n + i = 4 → z.toInt = (i : Int) → jLt w1 w (i) → sv_w sg w → cm_X (cm_C 3) 225 106 [some (.inr (.inr (some 121))), some (.inr (.inr (some 33))), some (.inl st), some (.inl z), o4] [] w Q := by
  intro n
  induction n with
  | zero =>
    intro i z w hi hz hP hG
    have eF : (w.1 4 4).toInt = ((Fd : Int) : Int) := by rw [hP.1 4 4 (by decide)]; exact hf
    refine wk_iload_n xd_6cb7ba84 rfl ?_
    refine wk_iconst xd_bf0f4c6d ?_
    refine wk_icmp xd_dca2f4c2 (t := 144) rfl (fun h108_0 => ?_) (fun h108_0 => ?_)
    · have h108_0 := aw_ge_t (a := ((i : Int) : Int)) (b := (4 : Int)) hz (show ((Int32.ofInt 4)).toInt = 4 from by decide) h108_0
      exact hk w z (by have e : i = 4 := (by omega); subst e; exact hP) hG
    · have h108_0 := aw_ge_f (a := ((i : Int) : Int)) (b := (4 : Int)) hz (show ((Int32.ofInt 4)).toInt = 4 from by decide) h108_0
      exfalso
      omega
  | succ n ih =>
    intro i z w hi hz hP hG
    have eF : (w.1 4 4).toInt = ((Fd : Int) : Int) := by rw [hP.1 4 4 (by decide)]; exact hf
    refine wk_iload_n xd_6cb7ba84 rfl ?_
    refine wk_iconst xd_bf0f4c6d ?_
    refine wk_icmp xd_dca2f4c2 (t := 144) rfl (fun h108_1 => ?_) (fun h108_1 => ?_)
    · have h108_1 := aw_ge_t (a := ((i : Int) : Int)) (b := (4 : Int)) hz (show ((Int32.ofInt 4)).toInt = 4 from by decide) h108_1
      exfalso
      omega
    · have h108_1 := aw_ge_f (a := ((i : Int) : Int)) (b := (4 : Int)) hz (show ((Int32.ofInt 4)).toInt = 4 from by decide) h108_1
      refine wk_aload_n xd_8688eeb0 rfl ?_
      refine wk_getR xf_718251e3 xd_dc64dee6 ?_
      refine wk_iload_n xd_9b77e69e rfl ?_
      refine wk_iload_n xd_ed92dfa3 rfl ?_
      refine wk_aload_n xd_5622b57a rfl ?_
      refine wk_getR xf_21a3579e xd_43d02ed1 ?_
      refine wk_getI xf_7c784baa xd_72b7d831 ?_
      refine wk_icmp xd_a99d5ddd (t := 136) rfl (fun h124_2 => ?_) (fun h124_2 => ?_)
      · have h124_2 := aw_ge_t (a := ((i : Int) : Int)) (b := ((Fd : Int) : Int)) hz (show ((w.1 4 4)).toInt = ((Fd : Int) : Int) from eF) h124_2
        refine wk_iconst xd_2b42b750 ?_
        refine aw_iastore (i := i) xf_4ab81c3b hz (by omega) (by omega) xd_7073150b ?_
        have hG4_ : sv_w sg (cm_u1 w 125 i (Int32.ofInt 0)) := sv_w_u1 hG (by rw [aw_tv2 xf_c0d09656]; exact sv_in_top _)
        refine aw_iinc (a := ((i : Int) : Int)) (b := (1 : Int)) (e := ((i : Int) + 1 : Int)) xd_4981ebdd (by rw [xm_8f67b210]; rfl) rfl rfl hz (show ((Int32.ofInt 1)).toInt = 1 from by decide) (by omega) (by omega) (by omega) (fun v5_ p5_ => ?_)
        refine wk_goto xd_e2100b86 (t := 106) rfl ?_
        refine ih (i + 1) _ _ (by omega) (by rw [p5_]; omega) ?_ hG4_
        refine ⟨fun k j hk => (hs_u1_ne (fun z => hk z.1)).trans (hP.1 k j hk), fun f hf' => ?_⟩
        by_cases e : f = i
        · subst e
          rw [hs_u1_self]
          exact ⟨by decide, by decide⟩
        · rw [hs_u1_ne (by omega)]
          exact hP.2 f (by omega)
      · have h124_2 := aw_ge_f (a := ((i : Int) : Int)) (b := ((Fd : Int) : Int)) hz (show ((w.1 4 4)).toInt = ((Fd : Int) : Int) from eF) h124_2
        refine wk_aload_n xd_0e3c1c52 rfl ?_
        refine wk_getR xf_3bbf578b xd_82592557 ?_
        refine wk_iload_n xd_42108b02 rfl ?_
        refine aw_iaload (i := i) xf_cb2da157 hz (by omega) (by omega) xd_875a9961 ?_
        refine wk_goto xd_55491718 (t := 137) rfl ?_
        refine aw_iastore (i := i) xf_4ab81c3b hz (by omega) (by omega) xd_7073150b ?_
        have hG6_ : sv_w sg (cm_u1 w 125 i (w.1 37 i)) := sv_w_u1 hG (by rw [aw_tv2 xf_c0d09656]; exact sv_in_top _)
        refine aw_iinc (a := ((i : Int) : Int)) (b := (1 : Int)) (e := ((i : Int) + 1 : Int)) xd_4981ebdd (by rw [xm_8f67b210]; rfl) rfl rfl hz (show ((Int32.ofInt 1)).toInt = 1 from by decide) (by omega) (by omega) (by omega) (fun v7_ p7_ => ?_)
        refine wk_goto xd_e2100b86 (t := 106) rfl ?_
        refine ih (i + 1) _ _ (by omega) (by rw [p7_]; omega) ?_ hG6_
        refine ⟨fun k j hk => (hs_u1_ne (fun z => hk z.1)).trans (hP.1 k j hk), fun f hf' => ?_⟩
        by_cases e : f = i
        · subst e
          rw [hs_u1_self, hP.1 37 f (by decide)]
          exact hL f (by omega) (by rw [hf]; omega)
        · rw [hs_u1_ne (by omega)]
          exact hP.2 f (by omega)
theorem jse_ok {w : cm_W} (st : Int32) (hL : jL 37 4 w) (hG : sv_w sg w) : ∃ w', cm_C 4 225 [.inr (.inr (some 121)), .inr (.inr (some 33)), .inl st] w (none, w') ∧ sv_w sg w' ∧ ∃ S : Nat, S ≤ 6 ∧ (w'.1 121 3).toInt = (S : Int) ∧ jGu w' S ∧ (∀ f, f < 4 → 0 ≤ (w'.1 125 f).toInt ∧ (w'.1 125 f).toInt ≤ 5) ∧ (∀ k i, ¬ (k = 121 ∧ i = 3) → k ≠ 123 → k ≠ 124 → k ≠ 125 → w'.1 k i = w.1 k i) := by
  have b3 := hG 4 3
  rw [xg_edd1578a] at b3
  have b3 := hb_in b3
  have b4 := hG 4 4
  rw [xg_bf82035f] at b4
  have b4 := hb_in b4
  have h : ∃ o, cm_C (3 + 1) 225 [.inr (.inr (some 121)), .inr (.inr (some 33)), .inl st] w o ∧ (fun o : cm_O => ∃ w', o = (none, w') ∧ sv_w sg w' ∧ ∃ S : Nat, S ≤ 6 ∧ (w'.1 121 3).toInt = (S : Int) ∧ jGu w' S ∧ (∀ f, f < 4 → 0 ≤ (w'.1 125 f).toInt ∧ (w'.1 125 f).toInt ≤ 5) ∧ (∀ k i, ¬ (k = 121 ∧ i = 3) → k ≠ 123 → k ≠ 124 → k ≠ 125 → w'.1 k i = w.1 k i)) o := by
    refine wk_entry (by rw [xm_8f67b210]; exact Nat.le_of_ble_eq_true rfl) ?_
    rw [show cm_ent 225 [.inr (.inr (some 121)), .inr (.inr (some 33)), .inl st] = [some (.inr (.inr (some 121))), some (.inr (.inr (some 33))), some (.inl st), none, none] from by unfold cm_ent; rw [xm_8f67b210]; rfl]
    refine wk_aload_n xd_2ab4ee66 rfl ?_
    refine wk_iconst xd_34dca812 ?_
    refine wk_putI xf_f57e18f7 (fun ci => wk_fitI ci) xd_f8a103a6 ?_
    have hG1_ : sv_w sg (cm_u1 w 121 3 (Int32.ofInt 0)) := sv_w_u1 hG (by rw [xg_4850aefa]; exact hb_mk (by rw [(show ((Int32.ofInt 0)).toInt = 0 from by decide)]; omega) (by rw [(show ((Int32.ofInt 0)).toInt = 0 from by decide)]; omega))
    refine wk_iconst xd_687d3b12 ?_
    refine wk_istore_n xd_f3175055 (by rw [xm_8f67b210]; rfl) rfl ?_
    refine jse_p (cm_u1 w 121 3 (Int32.ofInt 0)) st (w.1 4 3).toInt.toNat (by omega) (by show (w.1 4 3).toInt = _; omega) _ (fun w2 c p o4 c6 hc2 hg2 hF2 hG2 => ?_) (w.1 4 3).toInt.toNat 0 0 _ _ (cm_u1 w 121 3 (Int32.ofInt 0)) (by omega) (by omega) (by decide) (by rw [hs_u1_self]; decide) ⟨fun i hi => absurd hi (Nat.not_lt_zero i), fun i j _ hj => absurd hj (Nat.not_lt_zero j)⟩ (fun _ _ _ _ _ => rfl) hG1_
    have hF2' := hF2
    refine wk_iconst xd_73f747ed ?_
    refine wk_istore_n xd_e0bb47b5 (by rw [xm_8f67b210]; rfl) rfl ?_
    refine jse_l w2 st o4 (w2.1 4 4).toInt.toNat (by rw [hF2 4 4 (by omega) (by omega) (by omega)]; show (w.1 4 4).toInt = ((w.1 4 4).toInt.toNat : Int); omega) (jL_eq (w := w) (hF2 4 4 (by omega) (by omega) (by omega)) (fun f _ => hF2 37 f (by omega) (by omega) (by omega)) hL) _ (fun w3 z3 hP3 hG3 => ?_) 4 0 _ w2 (by omega) (by decide) ⟨fun _ _ _ => rfl, fun f hf => absurd hf (Nat.not_lt_zero f)⟩ hG2
    exact wk_return xd_dbcfb8c3 xr_6629085e ⟨w3, rfl, hG3, c, c6, (by rw [hP3.1 121 3 (by decide)]; exact hc2), (fun i j hij hj => by rw [hP3.1 123 i (by decide), hP3.1 123 j (by decide)]; exact hg2 i j hij hj), hP3.2, fun k i k1 k2 k3 k4 => (hP3.1 k i k4).trans ((hF2 k i k1 k2 k3).trans (hs_u1_ne (by omega)))⟩
  obtain ⟨o, hC, w', rfl, a⟩ := h
  exact ⟨w', hC, a⟩

/-! ## by hand: table of the class, the whole (wip/p2/gen9u.py) -/
set_option maxRecDepth 100000 in
theorem xd_7e401413 : decode (ia_code 82) 43 = .ok (.iload 5, 2) := fdd_d (by decide +kernel)
set_option maxRecDepth 100000 in
theorem xd_aa604bd9 : decode (ia_code 82) 45 = .ok (.ifCond .lt 81, 3) := fdd_d (by decide +kernel)
set_option maxRecDepth 100000 in
theorem xd_6ecbbd53 : decode (ia_code 82) 48 = .ok (.aload_n 0, 1) := fdd_d (by decide +kernel)
set_option maxRecDepth 100000 in
theorem xd_bf761c18 : decode (ia_code 82) 49 = .ok (.iload 5, 2) := fdd_d (by decide +kernel)
set_option maxRecDepth 100000 in
theorem xd_ea85e4e6 : decode (ia_code 82) 51 = .ok (.putfield 62, 3) := fdd_d (by decide +kernel)
set_option maxRecDepth 100000 in
theorem xf_ca3a7c66 : wk_pf 82 62 121 8 0 = true := by decide +kernel
set_option maxRecDepth 100000 in
theorem xg_f31f1041 : sv_g sg 121 8 = sv_top := by decide +kernel
set_option maxRecDepth 100000 in
theorem xd_ef0b3ac1 : decode (ia_code 82) 54 = .ok (.aload_n 0, 1) := fdd_d (by decide +kernel)
set_option maxRecDepth 100000 in
theorem xd_69db79a8 : decode (ia_code 82) 55 = .ok (.iload_n 3, 1) := fdd_d (by decide +kernel)
set_option maxRecDepth 100000 in
theorem xl_0235b06d : ia_pl (ia_cls 82) 65 = some (1, 228, 0, 0, 1053) := by decide +kernel
set_option maxRecDepth 100000 in
theorem xn_952e1186 : ia_na 228 = 2 := by decide +kernel
set_option maxRecDepth 100000 in
theorem xc_10d9341b : ia_mc 228 = 0 ∧ ia_ms 228 = 0 := ⟨by decide +kernel, by decide +kernel⟩
set_option maxRecDepth 100000 in
theorem xv_c1eb65f4 : cm_rcv 228 [.inr (.inr (some 121))] = true := by decide +kernel
set_option maxRecDepth 100000 in
theorem xd_a5a8333c : decode (ia_code 82) 56 = .ok (.invokevirtual 65, 3) := fdd_d (by decide +kernel)
set_option maxRecDepth 100000 in
theorem xd_749d32a0 : decode (ia_code 82) 59 = .ok (.aload_n 0, 1) := fdd_d (by decide +kernel)
set_option maxRecDepth 100000 in
theorem xd_2e85f7fa : decode (ia_code 82) 60 = .ok (.getfield 30, 3) := fdd_d (by decide +kernel)
set_option maxRecDepth 100000 in
theorem xf_2da88aac : wk_gf 82 30 121 7 (126 + 3) = true := by decide +kernel
set_option maxRecDepth 100000 in
theorem xd_3527d217 : decode (ia_code 82) 63 = .ok (.iconst 0, 1) := fdd_d (by decide +kernel)
set_option maxRecDepth 100000 in
theorem xd_d47486b2 : decode (ia_code 82) 64 = .ok (.iaload, 1) := fdd_d (by decide +kernel)
set_option maxRecDepth 100000 in
theorem xd_9b4df1e5 : decode (ia_code 82) 65 = .ok (.iload 4, 2) := fdd_d (by decide +kernel)
set_option maxRecDepth 100000 in
theorem xd_e4b1dd59 : decode (ia_code 82) 67 = .ok (.if_icmp .lt 6, 3) := fdd_d (by decide +kernel)
set_option maxRecDepth 100000 in
theorem xd_40896e60 : decode (ia_code 82) 73 = .ok (.aload_n 0, 1) := fdd_d (by decide +kernel)
set_option maxRecDepth 100000 in
theorem xd_d3944600 : decode (ia_code 82) 74 = .ok (.dup, 1) := fdd_d (by decide +kernel)
set_option maxRecDepth 100000 in
theorem xd_ca73785a : decode (ia_code 82) 75 = .ok (.getfield 69, 3) := fdd_d (by decide +kernel)
set_option maxRecDepth 100000 in
theorem xf_2294ca64 : wk_gf 82 69 121 10 0 = true := by decide +kernel
set_option maxRecDepth 100000 in
theorem xd_130f9a33 : decode (ia_code 82) 78 = .ok (.iconst 1, 1) := fdd_d (by decide +kernel)
set_option maxRecDepth 100000 in
theorem xd_4eb13ce3 : decode (ia_code 82) 79 = .ok (.iadd, 1) := fdd_d (by decide +kernel)
set_option maxRecDepth 100000 in
theorem xd_a07e580c : decode (ia_code 82) 80 = .ok (.putfield 69, 3) := fdd_d (by decide +kernel)
set_option maxRecDepth 100000 in
theorem xf_6ce7822e : wk_pf 82 69 121 10 0 = true := by decide +kernel
set_option maxRecDepth 100000 in
theorem xg_41c68bca : sv_g sg 121 10 = sv_top := by decide +kernel
set_option maxRecDepth 100000 in
theorem xd_a39c65a9 : decode (ia_code 82) 83 = .ok (.aload_n 0, 1) := fdd_d (by decide +kernel)
set_option maxRecDepth 100000 in
theorem xd_bd8ddd0b : decode (ia_code 82) 84 = .ok (.iconst 0, 1) := fdd_d (by decide +kernel)
set_option maxRecDepth 100000 in
theorem xd_53f5be6e : decode (ia_code 82) 85 = .ok (.iload_n 3, 1) := fdd_d (by decide +kernel)
set_option maxRecDepth 100000 in
theorem xl_4b0e4802 : ia_pl (ia_cls 82) 72 = some (1, 221, 0, 0, 1060) := by decide +kernel
set_option maxRecDepth 100000 in
theorem xd_9e933194 : decode (ia_code 82) 86 = .ok (.invokevirtual 72, 3) := fdd_d (by decide +kernel)
set_option maxRecDepth 100000 in
theorem xd_80ea97db : decode (ia_code 82) 89 = .ok (.istore 6, 2) := fdd_d (by decide +kernel)
set_option maxRecDepth 100000 in
theorem xm_a35bc2fc : ia_maxL 82 = 7 := by decide +kernel
set_option maxRecDepth 100000 in
theorem xd_2feebe7e : decode (ia_code 82) 91 = .ok (.iload 6, 2) := fdd_d (by decide +kernel)
set_option maxRecDepth 100000 in
theorem xd_b1eaec63 : decode (ia_code 82) 93 = .ok (.iload 4, 2) := fdd_d (by decide +kernel)
set_option maxRecDepth 100000 in
theorem xd_fd8c598e : decode (ia_code 82) 95 = .ok (.if_icmp .ge 25, 3) := fdd_d (by decide +kernel)
set_option maxRecDepth 100000 in
theorem xd_81ee5695 : decode (ia_code 82) 120 = .ok (.iinc 5 (-1), 3) := fdd_d (by decide +kernel)
set_option maxRecDepth 100000 in
theorem xd_6cbacc75 : decode (ia_code 82) 123 = .ok (.goto (-80), 3) := fdd_d (by decide +kernel)
set_option maxRecDepth 100000 in
theorem xd_95c63496 : decode (ia_code 82) 98 = .ok (.iload 6, 2) := fdd_d (by decide +kernel)
set_option maxRecDepth 100000 in
theorem xd_30f9b458 : decode (ia_code 82) 100 = .ok (.istore 4, 2) := fdd_d (by decide +kernel)
set_option maxRecDepth 100000 in
theorem xd_9aec463d : decode (ia_code 82) 102 = .ok (.aload_n 0, 1) := fdd_d (by decide +kernel)
set_option maxRecDepth 100000 in
theorem xd_1c3c0554 : decode (ia_code 82) 103 = .ok (.iload_n 3, 1) := fdd_d (by decide +kernel)
set_option maxRecDepth 100000 in
theorem xl_ee8bf235 : ia_pl (ia_cls 82) 76 = some (1, 223, 0, 0, 1081) := by decide +kernel
set_option maxRecDepth 100000 in
theorem xn_e2fe2097 : ia_na 223 = 2 := by decide +kernel
set_option maxRecDepth 100000 in
theorem xc_11557f11 : ia_mc 223 = 0 ∧ ia_ms 223 = 0 := ⟨by decide +kernel, by decide +kernel⟩
set_option maxRecDepth 100000 in
theorem xv_f6195538 : cm_rcv 223 [.inr (.inr (some 121))] = true := by decide +kernel
set_option maxRecDepth 100000 in
theorem xd_c1fcc01f : decode (ia_code 82) 104 = .ok (.invokevirtual 76, 3) := fdd_d (by decide +kernel)
set_option maxRecDepth 100000 in
theorem xd_01c30d7a : decode (ia_code 82) 107 = .ok (.aload_n 0, 1) := fdd_d (by decide +kernel)
set_option maxRecDepth 100000 in
theorem xd_570056ff : decode (ia_code 82) 108 = .ok (.iload_n 2, 1) := fdd_d (by decide +kernel)
set_option maxRecDepth 100000 in
theorem xd_e9a2cac5 : decode (ia_code 82) 109 = .ok (.putfield 36, 3) := fdd_d (by decide +kernel)
set_option maxRecDepth 100000 in
theorem xf_f9729c99 : wk_pf 82 36 121 0 0 = true := by decide +kernel
set_option maxRecDepth 100000 in
theorem xg_e0c850b5 : sv_g sg 121 0 = sv_top := by decide +kernel
set_option maxRecDepth 100000 in
theorem xd_1bc9231a : decode (ia_code 82) 112 = .ok (.aload_n 0, 1) := fdd_d (by decide +kernel)
set_option maxRecDepth 100000 in
theorem xd_80bac9ce : decode (ia_code 82) 113 = .ok (.aload_n 0, 1) := fdd_d (by decide +kernel)
set_option maxRecDepth 100000 in
theorem xd_601ebe5a : decode (ia_code 82) 114 = .ok (.getfield 62, 3) := fdd_d (by decide +kernel)
set_option maxRecDepth 100000 in
theorem xf_bdf16284 : wk_gf 82 62 121 8 0 = true := by decide +kernel
set_option maxRecDepth 100000 in
theorem xd_e93d903f : decode (ia_code 82) 117 = .ok (.putfield 9, 3) := fdd_d (by decide +kernel)
set_option maxRecDepth 100000 in
theorem xf_42762ab1 : wk_pf 82 9 121 1 0 = true := by decide +kernel
set_option maxRecDepth 100000 in
theorem xg_0f0a3b8b : sv_g sg 121 1 = sv_top := by decide +kernel
set_option maxRecDepth 100000 in
theorem xd_8cdc1958 : decode (ia_code 82) 70 = .ok (.goto 50, 3) := fdd_d (by decide +kernel)
set_option maxRecDepth 100000 in
theorem xd_c293f405 : decode (ia_code 82) 0 = .ok (.iload_n 2, 1) := fdd_d (by decide +kernel)
set_option maxRecDepth 100000 in
theorem xd_b102a19b : decode (ia_code 82) 1 = .ok (.ifCond .ne 15, 3) := fdd_d (by decide +kernel)
set_option maxRecDepth 100000 in
theorem xd_6b9b7777 : decode (ia_code 82) 16 = .ok (.aload_n 0, 1) := fdd_d (by decide +kernel)
set_option maxRecDepth 100000 in
theorem xd_cd88b413 : decode (ia_code 82) 17 = .ok (.aload_n 1, 1) := fdd_d (by decide +kernel)
set_option maxRecDepth 100000 in
theorem xd_a62bc626 : decode (ia_code 82) 18 = .ok (.iload_n 2, 1) := fdd_d (by decide +kernel)
set_option maxRecDepth 100000 in
theorem xl_e0bddbec : ia_pl (ia_cls 82) 39 = some (1, 225, 0, 0, 1027) := by decide +kernel
set_option maxRecDepth 100000 in
theorem xn_1ab9e5a1 : ia_na 225 = 3 := by decide +kernel
set_option maxRecDepth 100000 in
theorem xc_73dff8cb : ia_mc 225 = 0 ∧ ia_ms 225 = 0 := ⟨by decide +kernel, by decide +kernel⟩
set_option maxRecDepth 100000 in
theorem xv_40363712 : cm_rcv 225 [.inr (.inr (some 121))] = true := by decide +kernel
set_option maxRecDepth 100000 in
theorem xd_865e5bf3 : decode (ia_code 82) 19 = .ok (.invokevirtual 39, 3) := fdd_d (by decide +kernel)
set_option maxRecDepth 100000 in
theorem xd_0eb9567c : decode (ia_code 82) 22 = .ok (.aload_n 1, 1) := fdd_d (by decide +kernel)
set_option maxRecDepth 100000 in
theorem xd_6b599d1f : decode (ia_code 82) 23 = .ok (.getfield 43, 3) := fdd_d (by decide +kernel)
set_option maxRecDepth 100000 in
theorem xf_aa04d9da : wk_gf 82 43 33 0 (4 + 3) = true := by decide +kernel
set_option maxRecDepth 100000 in
theorem xd_7fdf5f4b : decode (ia_code 82) 26 = .ok (.getfield 49, 3) := fdd_d (by decide +kernel)
set_option maxRecDepth 100000 in
theorem xf_8f52b39d : wk_gf 82 49 4 4 0 = true := by decide +kernel
set_option maxRecDepth 100000 in
theorem xl_629f12a9 : ia_pl (ia_cls 82) 54 = some (1, 179, 1, 0, 1043) := by decide +kernel
set_option maxRecDepth 100000 in
theorem xn_5062e2a2 : ia_na 179 = 1 := by decide +kernel
set_option maxRecDepth 100000 in
theorem xc_0a21317a : ia_mc 179 = 0 ∧ ia_ms 179 = 0 := ⟨by decide +kernel, by decide +kernel⟩
set_option maxRecDepth 100000 in
theorem xd_e6df8f00 : decode (ia_code 82) 29 = .ok (.invokestatic 54, 3) := fdd_d (by decide +kernel)
set_option maxRecDepth 100000 in
theorem xd_d0bbb56c : decode (ia_code 82) 32 = .ok (.istore_n 3, 1) := fdd_d (by decide +kernel)
set_option maxRecDepth 100000 in
theorem xd_df3f8bc0 : decode (ia_code 82) 33 = .ok (.bipush 31, 2) := fdd_d (by decide +kernel)
set_option maxRecDepth 100000 in
theorem xd_69940ba0 : decode (ia_code 82) 35 = .ok (.istore 4, 2) := fdd_d (by decide +kernel)
set_option maxRecDepth 100000 in
theorem xd_29d351ac : decode (ia_code 82) 37 = .ok (.aload_n 0, 1) := fdd_d (by decide +kernel)
set_option maxRecDepth 100000 in
theorem xs_220_ae9a5151 {w : cm_W} (hG : sv_w sg w) : ∃ x : Int32, cm_C 1 220 [.inr (.inr (some 121))] w (some (.inl x), w) ∧ (((-2147483648) ≤ x.toInt ∧ x.toInt ≤ 199)) := by
  obtain ⟨r, w', hC, hG', hF, q, hq, hr, hp, hs⟩ := wk_use (d := 1) sm_220_ae9a5151_ok (by decide) (as := [.inr (.inr (some 121))]) (w := w) ⟨rfl, trivial⟩ (fun f hf => by
    cases hf) hG
  have ew : w' = w := Prod.ext (funext fun k => funext fun i => (hF k i (fun ⟨r, z, _⟩ => by cases z)).1) (funext fun k => funext fun i => (hF k i (fun ⟨r, z, _⟩ => by cases z)).2)
  subst ew
  simp only [sm_220_ae9a5151, List.mem_cons, List.not_mem_nil, or_false] at hq
  rcases hq with rfl
  · obtain ⟨x, rfl, hx⟩ := wk_int hr
    have hx := hb_in hx
    exact ⟨x, hC, ⟨by omega, by omega⟩⟩
set_option maxRecDepth 100000 in
theorem xl_0d4e46e8 : ia_pl (ia_cls 82) 58 = some (1, 220, 0, 0, 1048) := by decide +kernel
set_option maxRecDepth 100000 in
theorem xn_3c570bfd : ia_na 220 = 1 := by decide +kernel
set_option maxRecDepth 100000 in
theorem xc_20103cfc : ia_mc 220 = 0 ∧ ia_ms 220 = 0 := ⟨by decide +kernel, by decide +kernel⟩
set_option maxRecDepth 100000 in
theorem xv_ad0ee42d : cm_rcv 220 [.inr (.inr (some 121))] = true := by decide +kernel
set_option maxRecDepth 100000 in
theorem xd_4cc8a3f4 : decode (ia_code 82) 38 = .ok (.invokevirtual 58, 3) := fdd_d (by decide +kernel)
set_option maxRecDepth 100000 in
theorem xd_7eec29be : decode (ia_code 82) 41 = .ok (.istore 5, 2) := fdd_d (by decide +kernel)
set_option maxRecDepth 100000 in
theorem xd_d62b251f : decode (ia_code 82) 126 = .ok (.iload 4, 2) := fdd_d (by decide +kernel)
set_option maxRecDepth 100000 in
theorem xd_58486102 : decode (ia_code 82) 128 = .ok (.bipush 31, 2) := fdd_d (by decide +kernel)
set_option maxRecDepth 100000 in
theorem xd_94daa71c : decode (ia_code 82) 130 = .ok (.if_icmp .ne 7, 3) := fdd_d (by decide +kernel)
set_option maxRecDepth 100000 in
theorem xd_5ed9c241 : decode (ia_code 82) 137 = .ok (.iload 4, 2) := fdd_d (by decide +kernel)
set_option maxRecDepth 100000 in
theorem xd_cc657054 : decode (ia_code 82) 139 = .ok (.ireturn, 1) := fdd_d (by decide +kernel)
set_option maxRecDepth 100000 in
theorem xr_546ffe00 : ia_ret 82 = some .int := by decide +kernel
set_option maxRecDepth 100000 in
theorem xd_6002f198 : decode (ia_code 82) 133 = .ok (.iconst (-1), 1) := fdd_d (by decide +kernel)
set_option maxRecDepth 100000 in
theorem xd_baa67609 : decode (ia_code 82) 134 = .ok (.goto 5, 3) := fdd_d (by decide +kernel)
set_option maxRecDepth 100000 in
theorem xd_e20cd59b : decode (ia_code 82) 4 = .ok (.aload_n 0, 1) := fdd_d (by decide +kernel)
set_option maxRecDepth 100000 in
theorem xd_5bb6d520 : decode (ia_code 82) 5 = .ok (.iconst 0, 1) := fdd_d (by decide +kernel)
set_option maxRecDepth 100000 in
theorem xd_f179680d : decode (ia_code 82) 6 = .ok (.putfield 36, 3) := fdd_d (by decide +kernel)
set_option maxRecDepth 100000 in
theorem xd_799addfa : decode (ia_code 82) 9 = .ok (.aload_n 0, 1) := fdd_d (by decide +kernel)
set_option maxRecDepth 100000 in
theorem xd_074db60a : decode (ia_code 82) 10 = .ok (.iconst (-1), 1) := fdd_d (by decide +kernel)
set_option maxRecDepth 100000 in
theorem xd_03751381 : decode (ia_code 82) 11 = .ok (.putfield 9, 3) := fdd_d (by decide +kernel)
set_option maxRecDepth 100000 in
theorem xd_264774f9 : decode (ia_code 82) 14 = .ok (.iconst 0, 1) := fdd_d (by decide +kernel)
set_option maxRecDepth 100000 in
theorem xd_bfe77100 : decode (ia_code 82) 15 = .ok (.ireturn, 1) := fdd_d (by decide +kernel)
set_option maxRecDepth 100000 in
theorem xd_c1ed958d : decode (ia_code 43) 0 = .ok (.iload_n 1, 1) := fdd_d (by decide +kernel)
set_option maxRecDepth 100000 in
theorem xd_21210873 : decode (ia_code 43) 1 = .ok (.ifCond .lt 28, 3) := fdd_d (by decide +kernel)
set_option maxRecDepth 100000 in
theorem xd_d668134e : decode (ia_code 43) 29 = .ok (.iconst (-1), 1) := fdd_d (by decide +kernel)
set_option maxRecDepth 100000 in
theorem xd_c6a214c9 : decode (ia_code 43) 30 = .ok (.ireturn, 1) := fdd_d (by decide +kernel)
set_option maxRecDepth 100000 in
theorem xr_a30cb6a8 : ia_ret 43 = some .int := by decide +kernel
set_option maxRecDepth 100000 in
theorem xd_c1b1341e : decode (ia_code 43) 4 = .ok (.iload_n 1, 1) := fdd_d (by decide +kernel)
set_option maxRecDepth 100000 in
theorem xd_bce0d7fc : decode (ia_code 43) 5 = .ok (.iconst 1, 1) := fdd_d (by decide +kernel)
set_option maxRecDepth 100000 in
theorem xd_4b441d2a : decode (ia_code 43) 6 = .ok (.aload_n 0, 1) := fdd_d (by decide +kernel)
set_option maxRecDepth 100000 in
theorem xd_99d8a721 : decode (ia_code 43) 7 = .ok (.getfield 25, 3) := fdd_d (by decide +kernel)
set_option maxRecDepth 100000 in
theorem xf_9a194af7 : wk_gf 43 25 0 4 (4 + 3) = true := by decide +kernel
set_option maxRecDepth 100000 in
theorem xd_1f06f110 : decode (ia_code 43) 10 = .ok (.getfield 141, 3) := fdd_d (by decide +kernel)
set_option maxRecDepth 100000 in
theorem xf_74c329e9 : wk_gf 43 141 4 3 0 = true := by decide +kernel
set_option maxRecDepth 100000 in
theorem xd_61d67257 : decode (ia_code 43) 13 = .ok (.ishl, 1) := fdd_d (by decide +kernel)
set_option maxRecDepth 100000 in
theorem xd_9284d420 : decode (ia_code 43) 14 = .ok (.if_icmp .ge 15, 3) := fdd_d (by decide +kernel)
set_option maxRecDepth 100000 in
theorem xd_f27f60a3 : decode (ia_code 43) 17 = .ok (.iload_n 1, 1) := fdd_d (by decide +kernel)
set_option maxRecDepth 100000 in
theorem xd_e31c41f6 : decode (ia_code 43) 18 = .ok (.aload_n 0, 1) := fdd_d (by decide +kernel)
set_option maxRecDepth 100000 in
theorem xd_47710178 : decode (ia_code 43) 19 = .ok (.getfield 46, 3) := fdd_d (by decide +kernel)
set_option maxRecDepth 100000 in
theorem xf_5c53f3b1 : wk_gf 43 46 0 7 (33 + 3) = true := by decide +kernel
set_option maxRecDepth 100000 in
theorem xd_3a105131 : decode (ia_code 43) 22 = .ok (.getfield 246, 3) := fdd_d (by decide +kernel)
set_option maxRecDepth 100000 in
theorem xf_2216d068 : wk_gf 43 246 33 2 0 = true := by decide +kernel
set_option maxRecDepth 100000 in
theorem xd_da946d40 : decode (ia_code 43) 25 = .ok (.iand, 1) := fdd_d (by decide +kernel)
set_option maxRecDepth 100000 in
theorem xd_d9a07e69 : decode (ia_code 43) 26 = .ok (.ifCond .eq 5, 3) := fdd_d (by decide +kernel)
set_option maxRecDepth 100000 in
theorem xd_a1ed240b : decode (ia_code 43) 31 = .ok (.aload_n 0, 1) := fdd_d (by decide +kernel)
set_option maxRecDepth 100000 in
theorem xd_3fa3f35d : decode (ia_code 43) 32 = .ok (.getfield 93, 3) := fdd_d (by decide +kernel)
set_option maxRecDepth 100000 in
theorem xf_b4845955 : wk_gf 43 93 0 15 (121 + 3) = true := by decide +kernel
set_option maxRecDepth 100000 in
theorem xd_a1b18598 : decode (ia_code 43) 35 = .ok (.aload_n 0, 1) := fdd_d (by decide +kernel)
set_option maxRecDepth 100000 in
theorem xd_b0602508 : decode (ia_code 43) 36 = .ok (.getfield 46, 3) := fdd_d (by decide +kernel)
set_option maxRecDepth 100000 in
theorem xd_c6379df0 : decode (ia_code 43) 39 = .ok (.iload_n 1, 1) := fdd_d (by decide +kernel)
set_option maxRecDepth 100000 in
theorem xl_8df2b2f8 : ia_pl (ia_cls 43) 313 = some (1, 82, 0, 0, 1023) := by decide +kernel
set_option maxRecDepth 100000 in
theorem xn_c52b352b : ia_na 82 = 3 := by decide +kernel
set_option maxRecDepth 100000 in
theorem xc_b49922c5 : ia_mc 82 = 0 ∧ ia_ms 82 = 0 := ⟨by decide +kernel, by decide +kernel⟩
set_option maxRecDepth 100000 in
theorem xv_a8c42d24 : cm_rcv 82 [.inr (.inr (some 121))] = true := by decide +kernel
set_option maxRecDepth 100000 in
theorem xd_201c1fc0 : decode (ia_code 43) 40 = .ok (.invokevirtual 313, 3) := fdd_d (by decide +kernel)
set_option maxRecDepth 100000 in
theorem xd_d865a86a : decode (ia_code 43) 43 = .ok (.ireturn, 1) := fdd_d (by decide +kernel)
set_option maxRecDepth 100000 in
theorem xm_9993dfb8 : ia_maxL 43 = 2 := by decide +kernel
/-- between two tries -/
def jLI (w0 w : cm_W) (S : Nat) (l : Nat → Nat) (T : Int) : Prop := (∀ k i, ¬ (121 ≤ k ∧ k ≤ 127) → w.1 k i = w0.1 k i) ∧ (w.1 121 3).toInt = (S : Int) ∧ jGu w S ∧ jTl w l ∧ (w.1 121 10).toInt = T ∧ (∀ i, i < 7776 → 0 ≤ (w.1 127 i).toInt ∧ (w.1 127 i).toInt ≤ 32 * T + 31) ∧ sv_w sg w
theorem jLI_fr {w0 w w' : cm_W} {S : Nat} {l : Nat → Nat} {T : Int} (h : jLI w0 w S l T) (h1 : ∀ k i, ¬ (121 ≤ k ∧ k ≤ 127) → w'.1 k i = w.1 k i) (h2 : w'.1 121 3 = w.1 121 3) (h3 : ∀ i, w'.1 123 i = w.1 123 i) (h4 : ∀ i, w'.1 125 i = w.1 125 i) (h5 : w'.1 121 10 = w.1 121 10) (h6 : ∀ i, w'.1 127 i = w.1 127 i) (hG : sv_w sg w') : jLI w0 w' S l T := by
  obtain ⟨a1, a2, a3, a4, a5, a6, a7⟩ := h
  exact ⟨fun k i hk => (h1 k i hk).trans (a1 k i hk), by rw [h2]; exact a2, fun i j hij hj => by rw [h3, h3]; exact a3 i j hij hj, fun f hf => by rw [h4]; exact a4 f hf, by rw [h5]; exact a5, fun i hi => by rw [h6]; exact a6 i hi, hG⟩
theorem jla_l (w0 : cm_W) {S pc : Nat} {l : Nat → Nat} {st pv : Int32} {T0 : Int} (hT0 : 0 ≤ T0 ∧ T0 ≤ 900000) (hS6 : S ≤ 6) (hpc : pc ≤ 35) (hpv : pv.toInt = ((pc : Int) : Int)) (h5 : ∀ f, f < 4 → l f ≤ 5) (Q : cm_O → Prop) (hk126 : ∀ w be tr o6 T, T0 ≤ T → T ≤ T0 + 200 → jLI w0 w S l T → cm_X (cm_C 16) 82 126 [some (.inr (.inr (some 121))), some (.inr (.inr (some 33))), some (.inl st), some (.inl pv), some (.inl be), some (.inl tr), o6] [] w Q) : ∀ (n : Nat) (be tr : Int32) (o6 : Option cm_V) (w : cm_W) (T : Int), tr.toInt < (n : Int) → T0 ≤ T → T + (n : Int) ≤ T0 + 200 → be.toInt ≤ 31 → jLI w0 w S l T → cm_X (cm_C 16) 82 43 [some (.inr (.inr (some 121))), some (.inr (.inr (some 33))), some (.inl st), some (.inl pv), some (.inl be), some (.inl tr), o6] [] w Q := by
  intro n
  induction n with
  | zero =>
    intro be tr o6 w T hn hT hT2 hbe hI
    refine wk_iload xd_7e401413 rfl ?_
    refine wk_if xd_aa604bd9 (t := 126) rfl (fun h45_11 => ?_) (fun h45_11 => ?_)
    · have h45_11 := aw_lt_t (a := ((tr).toInt : Int)) (b := (0 : Int)) rfl hb_z h45_11
      exact hk126 w be tr o6 T (by omega) (by omega) hI
    · have h45_11 := aw_lt_f (a := ((tr).toInt : Int)) (b := (0 : Int)) rfl hb_z h45_11
      exfalso
      omega
  | succ n ih =>
    intro be tr o6 w T hn hT hT2 hbe hI
    refine wk_iload xd_7e401413 rfl ?_
    refine wk_if xd_aa604bd9 (t := 126) rfl (fun h45_0 => ?_) (fun h45_0 => ?_)
    · have h45_0 := aw_lt_t (a := ((tr).toInt : Int)) (b := (0 : Int)) rfl hb_z h45_0
      exact hk126 w be tr o6 T (by omega) (by omega) hI
    · have h45_0 := aw_lt_f (a := ((tr).toInt : Int)) (b := (0 : Int)) rfl hb_z h45_0
      refine wk_aload_n xd_6ecbbd53 rfl ?_
      refine wk_iload xd_bf761c18 rfl ?_
      refine wk_putI xf_ca3a7c66 (fun ci => wk_fitI ci) xd_ea85e4e6 ?_
      have hG2_ : sv_w sg (cm_u1 w 121 8 tr) := sv_w_u1 hI.2.2.2.2.2.2 (by rw [xg_f31f1041]; exact sv_in_top _)
      refine wk_aload_n xd_ef0b3ac1 rfl ?_
      refine wk_iload_n xd_69db79a8 rfl ?_
      obtain ⟨w1, hC1, hG1, hF1, hL1⟩ := jsl_ok (w := (cm_u1 w 121 8 tr)) (S := S) hS6 hpc hpv hI.2.1 hG2_
      have hI1 : jLI w0 w1 S l T := jLI_fr hI (fun k i hk => (hF1 k i (by omega)).trans (hs_u1_ne (by omega))) ((hF1 121 3 (by decide)).trans (hs_u1_ne (by omega))) (fun i => (hF1 123 i (by decide)).trans (hs_u1_ne (by omega))) (fun i => (hF1 125 i (by decide)).trans (hs_u1_ne (by omega))) ((hF1 121 10 (by decide)).trans (hs_u1_ne (by omega))) (fun i => (hF1 127 i (by decide)).trans (hs_u1_ne (by omega))) hG1
      have hg1 : (w1.1 121 8).toInt = tr.toInt := by rw [hF1 121 8 (by decide), hs_u1_self]
      have hT1 : (w1.1 121 10).toInt = (T : Int) := hI1.2.2.2.2.1
      refine wk_call (kd := 0) (i := 65) xd_a5a8333c rfl (wk_cal (as := [.inr (.inr (some 121)), .inl pv]) (t := []) xl_0235b06d rfl xn_952e1186 xc_10d9341b rfl rfl xv_c1eb65f4 rfl) (cm_C_mono (by omega) hC1) ?_
      refine wk_aload_n xd_749d32a0 rfl ?_
      refine wk_getR xf_2da88aac xd_2e85f7fa ?_
      refine wk_iconst xd_3527d217 ?_
      refine aw_iaload (i := 0) xf_79fd7716 (show ((Int32.ofInt 0)).toInt = 0 from by decide) (by omega) (by omega) xd_d47486b2 ?_
      refine wk_iload xd_9b4df1e5 rfl ?_
      refine wk_icmp xd_e4b1dd59 (t := 73) rfl (fun h67_2 => ?_) (fun h67_2 => ?_)
      · have h67_2 := aw_lt_t (a := ((w1.1 126 0).toInt : Int)) (b := ((be).toInt : Int)) rfl rfl h67_2
        refine wk_aload_n xd_40896e60 rfl ?_
        refine wk_dup_r xd_d3944600 ?_
        refine wk_getI xf_2294ca64 xd_ca73785a ?_
        refine wk_iconst xd_130f9a33 ?_
        refine aw_iadd (a := (T : Int)) (b := (1 : Int)) (e := (T + 1 : Int)) xd_4eb13ce3 (show ((w1.1 121 10)).toInt = (T : Int) from hT1) (show ((Int32.ofInt 1)).toInt = 1 from by decide) (by omega) (by omega) (by omega) (fun v4_ p4_ => ?_)
        refine wk_putI xf_6ce7822e (fun ci => wk_fitI ci) xd_a07e580c ?_
        have hG5_ : sv_w sg (cm_u1 w1 121 10 v4_) := sv_w_u1 hG1 (by rw [xg_41c68bca]; exact sv_in_top _)
        refine wk_aload_n xd_a39c65a9 rfl ?_
        refine wk_iconst xd_bd8ddd0b ?_
        refine wk_iload_n xd_53f5be6e rfl ?_
        have u : ∀ k i, ¬ (k = 121 ∧ i = 10) → (cm_u1 w1 121 10 v4_).1 k i = w1.1 k i := fun k i hki => hs_u1_ne hki
        have he2 : jEv (cm_u1 w1 121 10 v4_) S pc tr.toInt (T + 1) := by
          refine ⟨by rw [u 121 3 (by omega)]; exact hI1.2.1, by rw [u 121 8 (by omega)]; exact hg1, by rw [hs_u1_self]; exact p4_, hS6, hpc, by omega, by omega, by rw [u 126 S (by omega)]; exact hL1.1, fun s hs => ?_⟩
          rw [u 126 s (by omega), u 126 (s + 1) (by omega)]
          obtain ⟨a1, a2, a3⟩ := hL1.2 s (by omega) hs
          exact ⟨a1, a2, fun k hk hd => a3 k hk (by rw [u 124 _ (by omega)] at hd; rw [hg1]; exact hd)⟩
        have hm2 : jMi (cm_u1 w1 121 10 v4_) S pc tr.toInt (T + 1) := by
          refine ⟨fun i hi => ?_, fun s hs l' hl' v v0 v1 hst => ?_⟩
          · rw [u 127 i (by omega)]
            have := hI1.2.2.2.2.2.1 i hi
            omega
          · exfalso
            unfold jSt at hst
            have hcd := jCd_lt hl'
            rw [u 127 _ (by omega)] at hst
            have := (hI1.2.2.2.2.2.1 (jCd l' + 1296 * s) (by omega)).2
            omega
        have hl2 : jTl (cm_u1 w1 121 10 v4_) l := fun f hf => by rw [u 125 f (by omega)]; exact hI1.2.2.2.1 f hf
        obtain ⟨x, w3, hC3, hF3, hR3⟩ := jff_ok (pc := pc) (g := tr.toInt) (T := T + 1) hS6 0 (by omega) (cm_u1 w1 121 10 v4_) (Int32.ofInt 0) pv l (by decide) hpv he2 hl2 h5 hm2 hG5_
        have hI3 : jLI w0 w3 S l (T + 1) := ⟨fun k i hk => (hF3.1 k i (by omega)).trans ((u k i (by omega)).trans (hI1.1 k i hk)), by rw [hF3.1 121 3 (by decide), u 121 3 (by omega)]; exact hI1.2.1, fun i j hij hj => by rw [hF3.1 123 i (by decide), hF3.1 123 j (by decide), u 123 i (by omega), u 123 j (by omega)]; exact hI1.2.2.1 i j hij hj, fun f hf => by rw [hF3.1 125 f (by decide)]; exact hl2 f hf, by rw [hF3.1 121 10 (by decide)]; exact he2.2.2.1, hF3.2.2.2.1.1, hF3.2.2.2.2⟩
        refine wk_call (kd := 0) (i := 72) xd_9e933194 rfl (wk_cal (as := [.inr (.inr (some 121)), .inl (Int32.ofInt 0), .inl pv]) (t := []) xl_4b0e4802 rfl xn_ef394361 xc_8603ff98 rfl rfl xv_9bfc74de rfl) (cm_C_mono (by omega) hC3) ?_
        refine wk_istore xd_80ea97db (by rw [xm_a35bc2fc]; rfl) rfl ?_
        refine wk_iload xd_2feebe7e rfl ?_
        refine wk_iload xd_b1eaec63 rfl ?_
        refine wk_icmp xd_fd8c598e (t := 120) rfl (fun h95_5 => ?_) (fun h95_5 => ?_)
        · have h95_5 := aw_ge_t (a := ((x).toInt : Int)) (b := ((be).toInt : Int)) rfl rfl h95_5
          refine aw_iinc (a := ((tr).toInt : Int)) (b := ((-1) : Int)) (e := ((tr).toInt + (-1) : Int)) xd_81ee5695 (by rw [xm_a35bc2fc]; rfl) rfl rfl rfl (show ((Int32.ofInt (-1))).toInt = (-1) from by decide) (by omega) (by omega) (by omega) (fun v7_ p7_ => ?_)
          refine wk_goto xd_6cbacc75 (t := 43) rfl ?_
          exact ih be v7_ _ w3 (T + 1) (by rw [p7_]; omega) (by omega) (by omega) (by omega) hI3
        · have h95_5 := aw_ge_f (a := ((x).toInt : Int)) (b := ((be).toInt : Int)) rfl rfl h95_5
          refine wk_iload xd_95c63496 rfl ?_
          refine wk_istore xd_30f9b458 (by rw [xm_a35bc2fc]; rfl) rfl ?_
          refine wk_aload_n xd_9aec463d rfl ?_
          refine wk_iload_n xd_1c3c0554 rfl ?_
          have he3 : jEv w3 S pc tr.toInt (T + 1) := jEv_fr (fun a b hab => hF3.1 a b (by omega)) he2
          obtain ⟨w4, hC4, hF4, hl4, hm4, hG4⟩ := jfl_ok (w := w3) hpv he3 hI3.2.2.2.1 h5 hF3.2.2.2.1 (fun h0 => by
            rcases hR3 with ⟨h, -⟩ | ⟨-, h1, h2, h3, -⟩
            · omega
            · exact ⟨x.toInt, h1, by omega, h3⟩) hI3.2.2.1 hF3.2.2.2.2
          have hI4 : jLI w0 w4 S l (T + 1) := ⟨fun k i hk => (hF4 k i (by omega) (by omega) (by omega)).trans (hI3.1 k i hk), by rw [hF4 121 3 (by decide) (by decide) (by decide)]; exact hI3.2.1, fun i j hij hj => by rw [hF4 123 i (by decide) (by decide) (by decide), hF4 123 j (by decide) (by decide) (by decide)]; exact hI3.2.2.1 i j hij hj, hl4, by rw [hF4 121 10 (by decide) (by decide) (by decide)]; exact hI3.2.2.2.2.1, hm4.1, hG4⟩
          refine wk_call (kd := 0) (i := 76) xd_c1fcc01f rfl (wk_cal (as := [.inr (.inr (some 121)), .inl pv]) (t := []) xl_ee8bf235 rfl xn_e2fe2097 xc_11557f11 rfl rfl xv_f6195538 rfl) (cm_C_mono (by omega) hC4) ?_
          refine wk_aload_n xd_01c30d7a rfl ?_
          refine wk_iload_n xd_570056ff rfl ?_
          refine wk_putI xf_f9729c99 (fun ci => wk_fitI ci) xd_e9a2cac5 ?_
          have hG8_ : sv_w sg (cm_u1 w4 121 0 st) := sv_w_u1 hG4 (by rw [xg_e0c850b5]; exact sv_in_top _)
          refine wk_aload_n xd_1bc9231a rfl ?_
          refine wk_aload_n xd_80bac9ce rfl ?_
          refine wk_getI xf_bdf16284 xd_601ebe5a ?_
          refine wk_putI xf_42762ab1 (fun ci => wk_fitI ci) xd_e93d903f ?_
          have hG9_ : sv_w sg (cm_u1 (cm_u1 w4 121 0 st) 121 1 ((cm_u1 w4 121 0 st).1 121 8)) := sv_w_u1 hG8_ (by rw [xg_0f0a3b8b]; exact sv_in_top _)
          refine aw_iinc (a := ((tr).toInt : Int)) (b := ((-1) : Int)) (e := ((tr).toInt + (-1) : Int)) xd_81ee5695 (by rw [xm_a35bc2fc]; rfl) rfl rfl rfl (show ((Int32.ofInt (-1))).toInt = (-1) from by decide) (by omega) (by omega) (by omega) (fun v10_ p10_ => ?_)
          refine wk_goto xd_6cbacc75 (t := 43) rfl ?_
          exact ih x v10_ _ (cm_u1 (cm_u1 w4 121 0 st) 121 1 ((cm_u1 w4 121 0 st).1 121 8)) (T + 1) (by rw [p10_]; omega) (by omega) (by omega) (by omega) (jLI_fr hI4 (fun k i hk => (hs_u1_ne (by omega)).trans (hs_u1_ne (by omega))) ((hs_u1_ne (by omega)).trans (hs_u1_ne (by omega))) (fun i => (hs_u1_ne (by omega)).trans (hs_u1_ne (by omega))) (fun i => (hs_u1_ne (by omega)).trans (hs_u1_ne (by omega))) ((hs_u1_ne (by omega)).trans (hs_u1_ne (by omega))) (fun i => (hs_u1_ne (by omega)).trans (hs_u1_ne (by omega))) hG9_)
      · have h67_2 := aw_lt_f (a := ((w1.1 126 0).toInt : Int)) (b := ((be).toInt : Int)) rfl rfl h67_2
        refine wk_goto xd_8cdc1958 (t := 120) rfl ?_
        refine aw_iinc (a := ((tr).toInt : Int)) (b := ((-1) : Int)) (e := ((tr).toInt + (-1) : Int)) xd_81ee5695 (by rw [xm_a35bc2fc]; rfl) rfl rfl rfl (show ((Int32.ofInt (-1))).toInt = (-1) from by decide) (by omega) (by omega) (by omega) (fun v11_ p11_ => ?_)
        refine wk_goto xd_6cbacc75 (t := 43) rfl ?_
        exact ih be v11_ _ w1 T (by rw [p11_]; omega) (by omega) (by omega) (by omega) hI1
theorem jla_ok {w : cm_W} (st : Int32) {T0 : Int} (hT0 : 0 ≤ T0 ∧ T0 ≤ 900000) (hTr : (w.1 121 10).toInt = T0) (hme : ∀ i, i < 7776 → 0 ≤ (w.1 127 i).toInt ∧ (w.1 127 i).toInt ≤ 32 * T0 + 31) (hL : jL 37 4 w) (hG : sv_w sg w) : ∃ x w', cm_C 17 82 [.inr (.inr (some 121)), .inr (.inr (some 33)), .inl st] w (some (.inl x), w') ∧ sv_w sg w' ∧ ∃ T, T0 ≤ T ∧ T ≤ T0 + 200 ∧ (w'.1 121 10).toInt = T ∧ (∀ i, i < 7776 → 0 ≤ (w'.1 127 i).toInt ∧ (w'.1 127 i).toInt ≤ 32 * T + 31) ∧ (∀ k i, ¬ (121 ≤ k ∧ k ≤ 127) → w'.1 k i = w.1 k i) := by
  have h : ∃ o, cm_C (16 + 1) 82 [.inr (.inr (some 121)), .inr (.inr (some 33)), .inl st] w o ∧ (fun o : cm_O => ∃ x w', o = (some (.inl x), w') ∧ sv_w sg w' ∧ ∃ T, T0 ≤ T ∧ T ≤ T0 + 200 ∧ (w'.1 121 10).toInt = T ∧ (∀ i, i < 7776 → 0 ≤ (w'.1 127 i).toInt ∧ (w'.1 127 i).toInt ≤ 32 * T + 31) ∧ (∀ k i, ¬ (121 ≤ k ∧ k ≤ 127) → w'.1 k i = w.1 k i)) o := by
    refine wk_entry (by rw [xm_a35bc2fc]; exact Nat.le_of_ble_eq_true rfl) ?_
    rw [show cm_ent 82 [.inr (.inr (some 121)), .inr (.inr (some 33)), .inl st] = [some (.inr (.inr (some 121))), some (.inr (.inr (some 33))), some (.inl st), none, none, none, none] from by unfold cm_ent; rw [xm_a35bc2fc]; rfl]
    refine wk_iload_n xd_c293f405 rfl ?_
    refine wk_if xd_b102a19b (t := 16) rfl (fun h1_0 => ?_) (fun h1_0 => ?_)
    · have h1_0 := aw_ne_t (a := ((st).toInt : Int)) (b := (0 : Int)) rfl hb_z h1_0
      refine wk_aload_n xd_6b9b7777 rfl ?_
      refine wk_aload_n xd_cd88b413 rfl ?_
      refine wk_iload_n xd_a62bc626 rfl ?_
      obtain ⟨w1, hC1, hG1, S, hS6, hS, hgu, hle, hF1⟩ := jse_ok (w := w) st hL hG
      refine wk_call (kd := 0) (i := 39) xd_865e5bf3 rfl (wk_cal (as := [.inr (.inr (some 121)), .inr (.inr (some 33)), .inl st]) (t := []) xl_e0bddbec rfl xn_1ab9e5a1 xc_73dff8cb rfl rfl xv_40363712 rfl) (cm_C_mono (by omega) hC1) ?_
      refine wk_aload_n xd_0eb9567c rfl ?_
      refine wk_getR xf_aa04d9da xd_6b599d1f ?_
      refine wk_getI xf_8f52b39d xd_7fdf5f4b ?_
      obtain ⟨xh, hCh, hh0, hh1⟩ := jhm_ok w1 (w1.1 4 4)
      refine wk_call (kd := 1) (i := 54) xd_e6df8f00 rfl (wk_cal (as := [.inl (w1.1 4 4)]) (t := []) xl_629f12a9 rfl xn_5062e2a2 xc_0a21317a rfl rfl rfl rfl) (cm_C_mono (by omega) hCh) ?_
      refine wk_istore_n xd_d0bbb56c (by rw [xm_a35bc2fc]; rfl) rfl ?_
      refine wk_bipush xd_df3f8bc0 ?_
      refine wk_istore xd_69940ba0 (by rw [xm_a35bc2fc]; rfl) rfl ?_
      refine wk_aload_n xd_29d351ac rfl ?_
      obtain ⟨xc2_, hCc2_, hxc2_⟩ := xs_220_ae9a5151 (w := w1) hG1
      refine wk_call (kd := 0) (i := 58) xd_4cc8a3f4 rfl (wk_cal (as := [.inr (.inr (some 121))]) (t := []) xl_0d4e46e8 rfl xn_3c570bfd xc_20103cfc rfl rfl xv_ad0ee42d rfl) (cm_C_mono (by omega) hCc2_) ?_
      refine wk_istore xd_7eec29be (by rw [xm_a35bc2fc]; rfl) rfl ?_
      have hI1 : jLI w w1 S (fun f => (w1.1 125 f).toInt.toNat) T0 := ⟨fun k i hk => hF1 k i (by omega) (by omega) (by omega) (by omega), hS, hgu, fun f hf => by have := hle f hf; show (w1.1 125 f).toInt = (((w1.1 125 f).toInt.toNat : Nat) : Int); omega, by rw [hF1 121 10 (by omega) (by omega) (by omega) (by omega)]; exact hTr, fun i hi => by rw [hF1 127 i (by omega) (by omega) (by omega) (by omega)]; exact hme i hi, hG1⟩
      refine jla_l w (S := S) (pc := xh.toInt.toNat) (T0 := T0) (st := st) hT0 hS6 (by omega) (by omega) (fun f hf => by have := hle f hf; show (w1.1 125 f).toInt.toNat ≤ 5; omega) _ (fun w2 be tr o6 T2 hT2 hT3 hI2 => ?_) 200 _ _ _ w1 T0 (by omega) (by omega) (by omega) (by decide) hI1
      refine wk_iload xd_d62b251f rfl ?_
      refine wk_bipush xd_58486102 ?_
      refine wk_icmp xd_94daa71c (t := 137) rfl (fun h130_50 => ?_) (fun h130_50 => ?_)
      · have h130_50 := aw_ne_t (a := ((be).toInt : Int)) (b := (31 : Int)) rfl (show (((Int8.ofInt 31).toInt32)).toInt = 31 from by decide) h130_50
        refine wk_iload xd_5ed9c241 rfl ?_
        exact wk_ireturn xd_cc657054 xr_546ffe00 rfl ⟨_, w2, rfl, hI2.2.2.2.2.2.2, T2, hT2, hT3, hI2.2.2.2.2.1, hI2.2.2.2.2.2.1, hI2.1⟩
      · have h130_50 := aw_ne_f (a := ((be).toInt : Int)) (b := (31 : Int)) rfl (show (((Int8.ofInt 31).toInt32)).toInt = 31 from by decide) h130_50
        refine wk_iconst xd_6002f198 ?_
        refine wk_goto xd_baa67609 (t := 139) rfl ?_
        exact wk_ireturn xd_cc657054 xr_546ffe00 rfl ⟨_, w2, rfl, hI2.2.2.2.2.2.2, T2, hT2, hT3, hI2.2.2.2.2.1, hI2.2.2.2.2.2.1, hI2.1⟩
    · have h1_0 := aw_ne_f (a := ((st).toInt : Int)) (b := (0 : Int)) rfl hb_z h1_0
      refine wk_aload_n xd_e20cd59b rfl ?_
      refine wk_iconst xd_5bb6d520 ?_
      refine wk_putI xf_f9729c99 (fun ci => wk_fitI ci) xd_f179680d ?_
      have hG3_ : sv_w sg (cm_u1 w 121 0 (Int32.ofInt 0)) := sv_w_u1 hG (by rw [xg_e0c850b5]; exact sv_in_top _)
      refine wk_aload_n xd_799addfa rfl ?_
      refine wk_iconst xd_074db60a ?_
      refine wk_putI xf_42762ab1 (fun ci => wk_fitI ci) xd_03751381 ?_
      have hG4_ : sv_w sg (cm_u1 (cm_u1 w 121 0 (Int32.ofInt 0)) 121 1 (Int32.ofInt (-1))) := sv_w_u1 hG3_ (by rw [xg_0f0a3b8b]; exact sv_in_top _)
      refine wk_iconst xd_264774f9 ?_
      exact wk_ireturn xd_bfe77100 xr_546ffe00 rfl ⟨_, _, rfl, hG4_, T0, by omega, by omega, by rw [hs_u1_ne (by omega), hs_u1_ne (by omega)]; exact hTr, fun i hi => by rw [hs_u1_ne (by omega), hs_u1_ne (by omega)]; exact hme i hi, fun k i hk => by rw [hs_u1_ne (by omega), hs_u1_ne (by omega)]⟩
  obtain ⟨o, hC, x, w', rfl, a⟩ := h
  exact ⟨x, w', hC, a⟩
/-- table of the class ends -/
theorem jc_table {w : cm_W} {st : Int32} {T0 : Int} (hT0 : 0 ≤ T0 ∧ T0 ≤ 900000) (hTr : (w.1 121 10).toInt = T0) (hme : ∀ i, i < 7776 → 0 ≤ (w.1 127 i).toInt ∧ (w.1 127 i).toInt ≤ 32 * T0 + 31) (hL : jL 37 4 w) (hG : sv_w sg w) : ∃ x w', cm_C 18 43 [.inr (.inr (some 0)), .inl st] w (some (.inl x), w') ∧ sv_w sg w' ∧ ∃ T, T0 ≤ T ∧ T ≤ T0 + 200 ∧ (w'.1 121 10).toInt = T ∧ (∀ i, i < 7776 → 0 ≤ (w'.1 127 i).toInt ∧ (w'.1 127 i).toInt ≤ 32 * T + 31) ∧ (∀ k i, ¬ (121 ≤ k ∧ k ≤ 127) → w'.1 k i = w.1 k i) := by
  have h : ∃ o, cm_C (17 + 1) 43 [.inr (.inr (some 0)), .inl st] w o ∧ (fun o : cm_O => ∃ x w', o = (some (.inl x), w') ∧ sv_w sg w' ∧ ∃ T, T0 ≤ T ∧ T ≤ T0 + 200 ∧ (w'.1 121 10).toInt = T ∧ (∀ i, i < 7776 → 0 ≤ (w'.1 127 i).toInt ∧ (w'.1 127 i).toInt ≤ 32 * T + 31) ∧ (∀ k i, ¬ (121 ≤ k ∧ k ≤ 127) → w'.1 k i = w.1 k i)) o := by
    refine wk_entry (by rw [xm_9993dfb8]; exact Nat.le_of_ble_eq_true rfl) ?_
    rw [show cm_ent 43 [.inr (.inr (some 0)), .inl st] = [some (.inr (.inr (some 0))), some (.inl st)] from by unfold cm_ent; rw [xm_9993dfb8]; rfl]
    refine wk_iload_n xd_c1ed958d rfl ?_
    refine wk_if xd_21210873 (t := 29) rfl (fun h1_0 => ?_) (fun h1_0 => ?_)
    · have h1_0 := aw_lt_t (a := ((st).toInt : Int)) (b := (0 : Int)) rfl hb_z h1_0
      refine wk_iconst xd_d668134e ?_
      exact wk_ireturn xd_c6a214c9 xr_a30cb6a8 rfl ⟨_, _, rfl, hG, T0, by omega, by omega, hTr, hme, fun _ _ _ => rfl⟩
    · have h1_0 := aw_lt_f (a := ((st).toInt : Int)) (b := (0 : Int)) rfl hb_z h1_0
      refine wk_iload_n xd_c1b1341e rfl ?_
      refine wk_iconst xd_bce0d7fc ?_
      refine wk_aload_n xd_4b441d2a rfl ?_
      refine wk_getR xf_9a194af7 xd_99d8a721 ?_
      refine wk_getI xf_74c329e9 xd_1f06f110 ?_
      refine aw_ishl xd_61d67257 ?_
      refine wk_icmp xd_9284d420 (t := 29) rfl (fun h14_1 => ?_) (fun h14_1 => ?_)
      · have h14_1 := aw_ge_t (a := ((st).toInt : Int)) (b := (((Int32.ofInt 1) <<< ((w.1 4 3) &&& 31)).toInt : Int)) rfl rfl h14_1
        refine wk_iconst xd_d668134e ?_
        exact wk_ireturn xd_c6a214c9 xr_a30cb6a8 rfl ⟨_, _, rfl, hG, T0, by omega, by omega, hTr, hme, fun _ _ _ => rfl⟩
      · have h14_1 := aw_ge_f (a := ((st).toInt : Int)) (b := (((Int32.ofInt 1) <<< ((w.1 4 3) &&& 31)).toInt : Int)) rfl rfl h14_1
        refine wk_iload_n xd_f27f60a3 rfl ?_
        refine wk_aload_n xd_e31c41f6 rfl ?_
        refine wk_getR xf_5c53f3b1 xd_47710178 ?_
        refine wk_getI xf_2216d068 xd_3a105131 ?_
        refine wk_iand xd_da946d40 ?_
        refine wk_if xd_d9a07e69 (t := 31) rfl (fun h26_2 => ?_) (fun h26_2 => ?_)
        · have h26_2 := aw_eq_t (a := ((st &&& (w.1 33 2)).toInt : Int)) (b := (0 : Int)) rfl hb_z h26_2
          refine wk_aload_n xd_a1ed240b rfl ?_
          refine wk_getR xf_b4845955 xd_3fa3f35d ?_
          refine wk_aload_n xd_a1b18598 rfl ?_
          refine wk_getR xf_5c53f3b1 xd_b0602508 ?_
          refine wk_iload_n xd_c6379df0 rfl ?_
          obtain ⟨xl, wl, hCl, hPl⟩ := jla_ok (w := w) st hT0 hTr hme hL hG
          refine wk_call (kd := 0) (i := 313) xd_201c1fc0 rfl (wk_cal (as := [.inr (.inr (some 121)), .inr (.inr (some 33)), .inl st]) (t := []) xl_8df2b2f8 rfl xn_c52b352b xc_b49922c5 rfl rfl xv_a8c42d24 rfl) (cm_C_mono (by omega) hCl) ?_
          exact wk_ireturn xd_d865a86a xr_a30cb6a8 rfl ⟨_, _, rfl, hPl⟩
        · have h26_2 := aw_eq_f (a := ((st &&& (w.1 33 2)).toInt : Int)) (b := (0 : Int)) rfl hb_z h26_2
          refine wk_iconst xd_d668134e ?_
          exact wk_ireturn xd_c6a214c9 xr_a30cb6a8 rfl ⟨_, _, rfl, hG, T0, by omega, by omega, hTr, hme, fun _ _ _ => rfl⟩
  obtain ⟨o, hC, x, w', rfl, a⟩ := h
  exact ⟨x, w', hC, a⟩

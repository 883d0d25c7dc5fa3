/-! ## by hand: book of the class (wip/p2/gen9n.py) -/
set_option maxRecDepth 100000 in
theorem xd_c3203881 : decode (ia_code 170) 35 = .ok (.aload_n 0, 1) := fdd_d (by decide +kernel)
set_option maxRecDepth 100000 in
theorem xd_f9754268 : decode (ia_code 170) 36 = .ok (.getfield 34, 3) := fdd_d (by decide +kernel)
set_option maxRecDepth 100000 in
theorem xf_55fe57a6 : wk_gf 170 34 116 0 (2 + 3) = true := by decide +kernel
set_option maxRecDepth 100000 in
theorem xl_6e0e7c3b : ia_pl (ia_cls 170) 71 = some (1, 61, 0, 0, 1237) := by decide +kernel
set_option maxRecDepth 100000 in
theorem xd_7f76c889 : decode (ia_code 170) 39 = .ok (.invokevirtual 71, 3) := fdd_d (by decide +kernel)
set_option maxRecDepth 100000 in
theorem xd_84819758 : decode (ia_code 170) 42 = .ok (.aload_n 0, 1) := fdd_d (by decide +kernel)
set_option maxRecDepth 100000 in
theorem xd_faa8cdc0 : decode (ia_code 170) 43 = .ok (.getfield 11, 3) := fdd_d (by decide +kernel)
set_option maxRecDepth 100000 in
theorem xf_3b6872e6 : wk_gf 170 11 116 3 (117 + 3) = true := by decide +kernel
set_option maxRecDepth 100000 in
theorem xd_84dd36cb : decode (ia_code 170) 46 = .ok (.aload_n 0, 1) := fdd_d (by decide +kernel)
set_option maxRecDepth 100000 in
theorem xd_16786c58 : decode (ia_code 170) 47 = .ok (.getfield 42, 3) := fdd_d (by decide +kernel)
set_option maxRecDepth 100000 in
theorem xf_fac211bd : wk_gf 170 42 116 2 0 = true := by decide +kernel
set_option maxRecDepth 100000 in
theorem xd_8f51db4b : decode (ia_code 170) 50 = .ok (.iload_n 1, 1) := fdd_d (by decide +kernel)
set_option maxRecDepth 100000 in
theorem xd_45623c77 : decode (ia_code 170) 51 = .ok (.iastore, 1) := fdd_d (by decide +kernel)
set_option maxRecDepth 100000 in
theorem xf_cc076ad5 : wk_ar 117 50 40 = true := by decide +kernel
set_option maxRecDepth 100000 in
theorem xf_bcf02dc0 : sv_gr sg 117 = [] := by decide +kernel
set_option maxRecDepth 100000 in
theorem xd_05a4f27f : decode (ia_code 170) 52 = .ok (.aload_n 0, 1) := fdd_d (by decide +kernel)
set_option maxRecDepth 100000 in
theorem xd_10a50926 : decode (ia_code 170) 53 = .ok (.getfield 18, 3) := fdd_d (by decide +kernel)
set_option maxRecDepth 100000 in
theorem xf_9cda9b4a : wk_gf 170 18 116 5 (119 + 3) = true := by decide +kernel
set_option maxRecDepth 100000 in
theorem xd_05f853ec : decode (ia_code 170) 56 = .ok (.aload_n 0, 1) := fdd_d (by decide +kernel)
set_option maxRecDepth 100000 in
theorem xd_f165cacf : decode (ia_code 170) 57 = .ok (.getfield 42, 3) := fdd_d (by decide +kernel)
set_option maxRecDepth 100000 in
theorem xd_d74f7263 : decode (ia_code 170) 60 = .ok (.iload_n 1, 1) := fdd_d (by decide +kernel)
set_option maxRecDepth 100000 in
theorem xd_7c176c09 : decode (ia_code 170) 61 = .ok (.bipush 6, 2) := fdd_d (by decide +kernel)
set_option maxRecDepth 100000 in
theorem xd_192ae472 : decode (ia_code 170) 63 = .ok (.if_icmp .ne 18, 3) := fdd_d (by decide +kernel)
set_option maxRecDepth 100000 in
theorem xd_fe7af7cf : decode (ia_code 170) 81 = .ok (.iconst 0, 1) := fdd_d (by decide +kernel)
set_option maxRecDepth 100000 in
theorem xd_ccb66f54 : decode (ia_code 170) 82 = .ok (.iastore, 1) := fdd_d (by decide +kernel)
set_option maxRecDepth 100000 in
theorem xf_079c3f55 : wk_ar 119 50 40 = true := by decide +kernel
set_option maxRecDepth 100000 in
theorem xf_86fa4cb0 : sv_gr sg 119 = [] := by decide +kernel
set_option maxRecDepth 100000 in
theorem xd_a4f9df6d : decode (ia_code 170) 83 = .ok (.aload_n 0, 1) := fdd_d (by decide +kernel)
set_option maxRecDepth 100000 in
theorem xd_4655e87b : decode (ia_code 170) 84 = .ok (.getfield 18, 3) := fdd_d (by decide +kernel)
set_option maxRecDepth 100000 in
theorem xd_a4a57efe : decode (ia_code 170) 87 = .ok (.aload_n 0, 1) := fdd_d (by decide +kernel)
set_option maxRecDepth 100000 in
theorem xd_8b9eb825 : decode (ia_code 170) 88 = .ok (.getfield 42, 3) := fdd_d (by decide +kernel)
set_option maxRecDepth 100000 in
theorem xd_3f5ac29b : decode (ia_code 170) 91 = .ok (.iaload, 1) := fdd_d (by decide +kernel)
set_option maxRecDepth 100000 in
theorem xd_4620f256 : decode (ia_code 170) 92 = .ok (.iconst (-1), 1) := fdd_d (by decide +kernel)
set_option maxRecDepth 100000 in
theorem xd_4b49b84d : decode (ia_code 170) 93 = .ok (.if_icmp .eq 7, 3) := fdd_d (by decide +kernel)
set_option maxRecDepth 100000 in
theorem xd_82f1c6ec : decode (ia_code 170) 100 = .ok (.iconst 0, 1) := fdd_d (by decide +kernel)
set_option maxRecDepth 100000 in
theorem xd_d8910966 : decode (ia_code 170) 101 = .ok (.ireturn, 1) := fdd_d (by decide +kernel)
set_option maxRecDepth 100000 in
theorem xr_abdb0b41 : ia_ret 170 = some .boolean := by decide +kernel
set_option maxRecDepth 100000 in
theorem xd_3db00aeb : decode (ia_code 170) 96 = .ok (.iconst 1, 1) := fdd_d (by decide +kernel)
set_option maxRecDepth 100000 in
theorem xd_0c0dea71 : decode (ia_code 170) 97 = .ok (.goto 4, 3) := fdd_d (by decide +kernel)
set_option maxRecDepth 100000 in
theorem xd_5de6fac4 : decode (ia_code 170) 66 = .ok (.aload_n 0, 1) := fdd_d (by decide +kernel)
set_option maxRecDepth 100000 in
theorem xd_9177e22f : decode (ia_code 170) 67 = .ok (.getfield 34, 3) := fdd_d (by decide +kernel)
set_option maxRecDepth 100000 in
theorem xd_3109ed99 : decode (ia_code 170) 70 = .ok (.aload_n 0, 1) := fdd_d (by decide +kernel)
set_option maxRecDepth 100000 in
theorem xd_d841c51f : decode (ia_code 170) 71 = .ok (.getfield 38, 3) := fdd_d (by decide +kernel)
set_option maxRecDepth 100000 in
theorem xf_be91acea : wk_gf 170 38 116 1 (4 + 3) = true := by decide +kernel
set_option maxRecDepth 100000 in
theorem xd_fe93f237 : decode (ia_code 170) 74 = .ok (.iconst 1, 1) := fdd_d (by decide +kernel)
set_option maxRecDepth 100000 in
theorem xs_188_ba632675 {a2 : Int32} {w : cm_W} (h2 : 1 ≤ a2.toInt ∧ a2.toInt ≤ 1) (hG : sv_w sg w) : ∃ x : Int32, ∃ w' : cm_W, cm_C 3 188 [.inr (.inr (some 2)), .inr (.inr (some 4)), .inl a2] w (some (.inl x), w') ∧ sv_w sg w' ∧ (∀ k i, ¬ ((k = 2 ∧ 4 ≤ i ∧ i ≤ 12)) → w'.1 k i = w.1 k i ∧ w'.2 k i = w.2 k i) ∧ ((0 ≤ x.toInt ∧ x.toInt ≤ 3) ∨ (x.toInt = (-1))) := by
  obtain ⟨r, w', hC, hG', hF, q, hq, hr, hp, hs⟩ := wk_use (d := 3) sm_188_ba632675_ok (by decide) (as := [.inr (.inr (some 2)), .inr (.inr (some 4)), .inl a2]) (w := w) ⟨rfl, rfl, hb_mk (lo := 2147483649) (hi := 2147483649) (by have := h2.1; omega) (by have := h2.2; omega), trivial⟩ (fun f hf => by
    cases hf) hG
  have hfr : ∀ k i, ¬ ((k = 2 ∧ 4 ≤ i ∧ i ≤ 12)) → w'.1 k i = w.1 k i ∧ w'.2 k i = w.2 k i := fun k i hki => hF k i (fun ⟨r, z, z1, z2, z3⟩ => by
    simp only [sm_188_ba632675, List.mem_cons, List.not_mem_nil, or_false] at z
    rcases z with rfl
    all_goals (simp only at z1 z2 z3; omega))
  simp only [sm_188_ba632675, List.mem_cons, List.not_mem_nil, or_false] at hq
  rcases hq with rfl | rfl
  · obtain ⟨x, rfl, hx⟩ := wk_int hr
    have hx := hb_in hx
    exact ⟨x, w', hC, hG', hfr, Or.inl ⟨by omega, by omega⟩⟩
  · obtain ⟨x, rfl, hx⟩ := wk_int hr
    have hx := hb_in hx
    exact ⟨x, w', hC, hG', hfr, Or.inr ((by omega))⟩
set_option maxRecDepth 100000 in
theorem xl_b0c14be1 : ia_pl (ia_cls 170) 77 = some (1, 188, 0, 0, 1242) := by decide +kernel
set_option maxRecDepth 100000 in
theorem xd_025c0c4c : decode (ia_code 170) 75 = .ok (.invokevirtual 77, 3) := fdd_d (by decide +kernel)
set_option maxRecDepth 100000 in
theorem xd_a35d96e0 : decode (ia_code 170) 78 = .ok (.goto 4, 3) := fdd_d (by decide +kernel)
set_option maxRecDepth 100000 in
theorem xd_ea2ea90c : decode (ia_code 170) 0 = .ok (.aload_n 0, 1) := fdd_d (by decide +kernel)
set_option maxRecDepth 100000 in
theorem xd_603608ef : decode (ia_code 170) 1 = .ok (.getfield 34, 3) := fdd_d (by decide +kernel)
set_option maxRecDepth 100000 in
theorem xd_a62dccd9 : decode (ia_code 170) 4 = .ok (.getfield 61, 3) := fdd_d (by decide +kernel)
set_option maxRecDepth 100000 in
theorem xf_a1a4aaa1 : wk_gf 170 61 2 8 0 = true := by decide +kernel
set_option maxRecDepth 100000 in
theorem xd_a5557413 : decode (ia_code 170) 7 = .ok (.istore_n 1, 1) := fdd_d (by decide +kernel)
set_option maxRecDepth 100000 in
theorem xm_b8c623ed : ia_maxL 170 = 2 := by decide +kernel
set_option maxRecDepth 100000 in
theorem xd_8df410f7 : decode (ia_code 170) 8 = .ok (.iload_n 1, 1) := fdd_d (by decide +kernel)
set_option maxRecDepth 100000 in
theorem xd_c2aae3f7 : decode (ia_code 170) 9 = .ok (.bipush 6, 2) := fdd_d (by decide +kernel)
set_option maxRecDepth 100000 in
theorem xd_d1e72956 : decode (ia_code 170) 11 = .ok (.if_icmp .eq 24, 3) := fdd_d (by decide +kernel)
set_option maxRecDepth 100000 in
theorem xd_e60be487 : decode (ia_code 170) 14 = .ok (.iload_n 1, 1) := fdd_d (by decide +kernel)
set_option maxRecDepth 100000 in
theorem xd_6b6f4e17 : decode (ia_code 170) 15 = .ok (.bipush 7, 2) := fdd_d (by decide +kernel)
set_option maxRecDepth 100000 in
theorem xd_973fb8b7 : decode (ia_code 170) 17 = .ok (.if_icmp .eq 18, 3) := fdd_d (by decide +kernel)
set_option maxRecDepth 100000 in
theorem xd_be49ec3c : decode (ia_code 170) 20 = .ok (.iload_n 1, 1) := fdd_d (by decide +kernel)
set_option maxRecDepth 100000 in
theorem xd_c37b73fb : decode (ia_code 170) 21 = .ok (.bipush 8, 2) := fdd_d (by decide +kernel)
set_option maxRecDepth 100000 in
theorem xd_7e503f0e : decode (ia_code 170) 23 = .ok (.if_icmp .eq 12, 3) := fdd_d (by decide +kernel)
set_option maxRecDepth 100000 in
theorem xd_34e0649b : decode (ia_code 170) 26 = .ok (.aload_n 0, 1) := fdd_d (by decide +kernel)
set_option maxRecDepth 100000 in
theorem xd_bbe374f1 : decode (ia_code 170) 27 = .ok (.getfield 34, 3) := fdd_d (by decide +kernel)
set_option maxRecDepth 100000 in
theorem xd_a26ec0a4 : decode (ia_code 170) 30 = .ok (.iconst 1, 1) := fdd_d (by decide +kernel)
set_option maxRecDepth 100000 in
theorem xl_f9664506 : ia_pl (ia_cls 170) 68 = some (1, 63, 0, 0, 1236) := by decide +kernel
set_option maxRecDepth 100000 in
theorem xd_814c675c : decode (ia_code 170) 31 = .ok (.invokevirtual 68, 3) := fdd_d (by decide +kernel)
set_option maxRecDepth 100000 in
theorem xd_1d8d1253 : decode (ia_code 170) 34 = .ok (.ireturn, 1) := fdd_d (by decide +kernel)
set_option maxRecDepth 100000 in
theorem xd_86e29b44 : decode (ia_code 171) 54 = .ok (.aload_n 0, 1) := fdd_d (by decide +kernel)
set_option maxRecDepth 100000 in
theorem xd_020435b6 : decode (ia_code 171) 55 = .ok (.getfield 42, 3) := fdd_d (by decide +kernel)
set_option maxRecDepth 100000 in
theorem xf_2d2091e5 : wk_gf 171 42 116 2 0 = true := by decide +kernel
set_option maxRecDepth 100000 in
theorem xd_50d21b06 : decode (ia_code 171) 58 = .ok (.bipush 40, 2) := fdd_d (by decide +kernel)
set_option maxRecDepth 100000 in
theorem xd_3e79e76d : decode (ia_code 171) 60 = .ok (.if_icmp .lt 12, 3) := fdd_d (by decide +kernel)
set_option maxRecDepth 100000 in
theorem xd_b2132531 : decode (ia_code 171) 72 = .ok (.aload_n 0, 1) := fdd_d (by decide +kernel)
set_option maxRecDepth 100000 in
theorem xd_eed0d767 : decode (ia_code 171) 73 = .ok (.getfield 34, 3) := fdd_d (by decide +kernel)
set_option maxRecDepth 100000 in
theorem xf_f075c7a8 : wk_gf 171 34 116 0 (2 + 3) = true := by decide +kernel
set_option maxRecDepth 100000 in
theorem xl_9fd47991 : ia_pl (ia_cls 171) 71 = some (1, 61, 0, 0, 1237) := by decide +kernel
set_option maxRecDepth 100000 in
theorem xd_ed3f8dc2 : decode (ia_code 171) 76 = .ok (.invokevirtual 71, 3) := fdd_d (by decide +kernel)
set_option maxRecDepth 100000 in
theorem xd_c44f5f2a : decode (ia_code 171) 79 = .ok (.aload_n 0, 1) := fdd_d (by decide +kernel)
set_option maxRecDepth 100000 in
theorem xd_267fbf15 : decode (ia_code 171) 80 = .ok (.getfield 15, 3) := fdd_d (by decide +kernel)
set_option maxRecDepth 100000 in
theorem xf_fabc28a9 : wk_gf 171 15 116 4 (118 + 3) = true := by decide +kernel
set_option maxRecDepth 100000 in
theorem xd_ca75c42c : decode (ia_code 171) 83 = .ok (.aload_n 0, 1) := fdd_d (by decide +kernel)
set_option maxRecDepth 100000 in
theorem xd_3f2fb84d : decode (ia_code 171) 84 = .ok (.getfield 42, 3) := fdd_d (by decide +kernel)
set_option maxRecDepth 100000 in
theorem xd_d78acc02 : decode (ia_code 171) 87 = .ok (.iload_n 3, 1) := fdd_d (by decide +kernel)
set_option maxRecDepth 100000 in
theorem xd_a80bf751 : decode (ia_code 171) 88 = .ok (.iastore, 1) := fdd_d (by decide +kernel)
set_option maxRecDepth 100000 in
theorem xf_9a93de23 : wk_ar 118 50 40 = true := by decide +kernel
set_option maxRecDepth 100000 in
theorem xh_9d6ca2bf : ∀ i, i < 40 → sv_g sg 118 i = (2147483648, 2147483653) := by decide +kernel
set_option maxRecDepth 100000 in
theorem xd_0799d4ee : decode (ia_code 171) 89 = .ok (.iload_n 2, 1) := fdd_d (by decide +kernel)
set_option maxRecDepth 100000 in
theorem xd_960c9492 : decode (ia_code 171) 90 = .ok (.ifCond .eq 8, 3) := fdd_d (by decide +kernel)
set_option maxRecDepth 100000 in
theorem xd_3d0cdb10 : decode (ia_code 171) 98 = .ok (.aload_n 0, 1) := fdd_d (by decide +kernel)
set_option maxRecDepth 100000 in
theorem xd_bd62bcfb : decode (ia_code 171) 99 = .ok (.getfield 11, 3) := fdd_d (by decide +kernel)
set_option maxRecDepth 100000 in
theorem xf_55e469a7 : wk_gf 171 11 116 3 (117 + 3) = true := by decide +kernel
set_option maxRecDepth 100000 in
theorem xd_0757d833 : decode (ia_code 171) 102 = .ok (.aload_n 0, 1) := fdd_d (by decide +kernel)
set_option maxRecDepth 100000 in
theorem xd_8daf4b18 : decode (ia_code 171) 103 = .ok (.getfield 42, 3) := fdd_d (by decide +kernel)
set_option maxRecDepth 100000 in
theorem xd_6068837d : decode (ia_code 171) 106 = .ok (.iload_n 1, 1) := fdd_d (by decide +kernel)
set_option maxRecDepth 100000 in
theorem xd_6e8c59b6 : decode (ia_code 171) 107 = .ok (.iastore, 1) := fdd_d (by decide +kernel)
set_option maxRecDepth 100000 in
theorem xd_ea7848fc : decode (ia_code 171) 108 = .ok (.aload_n 0, 1) := fdd_d (by decide +kernel)
set_option maxRecDepth 100000 in
theorem xd_2bbf77e0 : decode (ia_code 171) 109 = .ok (.getfield 18, 3) := fdd_d (by decide +kernel)
set_option maxRecDepth 100000 in
theorem xf_f256800b : wk_gf 171 18 116 5 (119 + 3) = true := by decide +kernel
set_option maxRecDepth 100000 in
theorem xd_8672bd14 : decode (ia_code 171) 112 = .ok (.aload_n 0, 1) := fdd_d (by decide +kernel)
set_option maxRecDepth 100000 in
theorem xd_6ab2ed8f : decode (ia_code 171) 113 = .ok (.getfield 42, 3) := fdd_d (by decide +kernel)
set_option maxRecDepth 100000 in
theorem xd_e14de65a : decode (ia_code 171) 116 = .ok (.iload_n 1, 1) := fdd_d (by decide +kernel)
set_option maxRecDepth 100000 in
theorem xd_ff993472 : decode (ia_code 171) 117 = .ok (.bipush 9, 2) := fdd_d (by decide +kernel)
set_option maxRecDepth 100000 in
theorem xd_06d911f1 : decode (ia_code 171) 119 = .ok (.if_icmp .ne 18, 3) := fdd_d (by decide +kernel)
set_option maxRecDepth 100000 in
theorem xd_c4663a5c : decode (ia_code 171) 137 = .ok (.aload_n 0, 1) := fdd_d (by decide +kernel)
set_option maxRecDepth 100000 in
theorem xd_f45b461c : decode (ia_code 171) 138 = .ok (.getfield 34, 3) := fdd_d (by decide +kernel)
set_option maxRecDepth 100000 in
theorem xd_c669314e : decode (ia_code 171) 141 = .ok (.iconst 1, 1) := fdd_d (by decide +kernel)
set_option maxRecDepth 100000 in
theorem xd_f54c8590 : decode (ia_code 171) 142 = .ok (.bipush 60, 2) := fdd_d (by decide +kernel)
set_option maxRecDepth 100000 in
theorem xl_7d15b5a1 : ia_pl (ia_cls 171) 80 = some (1, 189, 0, 0, 1243) := by decide +kernel
set_option maxRecDepth 100000 in
theorem xd_db1b283c : decode (ia_code 171) 144 = .ok (.invokevirtual 80, 3) := fdd_d (by decide +kernel)
set_option maxRecDepth 100000 in
theorem xd_322dcab6 : decode (ia_code 171) 147 = .ok (.iastore, 1) := fdd_d (by decide +kernel)
set_option maxRecDepth 100000 in
theorem xd_837ed6a3 : decode (ia_code 171) 148 = .ok (.aload_n 0, 1) := fdd_d (by decide +kernel)
set_option maxRecDepth 100000 in
theorem xd_012be13e : decode (ia_code 171) 149 = .ok (.getfield 18, 3) := fdd_d (by decide +kernel)
set_option maxRecDepth 100000 in
theorem xd_ef74234b : decode (ia_code 171) 152 = .ok (.aload_n 0, 1) := fdd_d (by decide +kernel)
set_option maxRecDepth 100000 in
theorem xd_40267b51 : decode (ia_code 171) 153 = .ok (.getfield 42, 3) := fdd_d (by decide +kernel)
set_option maxRecDepth 100000 in
theorem xd_ba2a208f : decode (ia_code 171) 156 = .ok (.iaload, 1) := fdd_d (by decide +kernel)
set_option maxRecDepth 100000 in
theorem xd_2d5568a4 : decode (ia_code 171) 157 = .ok (.iconst (-1), 1) := fdd_d (by decide +kernel)
set_option maxRecDepth 100000 in
theorem xd_03c2a110 : decode (ia_code 171) 158 = .ok (.if_icmp .eq 7, 3) := fdd_d (by decide +kernel)
set_option maxRecDepth 100000 in
theorem xd_4a3e5817 : decode (ia_code 171) 165 = .ok (.iconst 0, 1) := fdd_d (by decide +kernel)
set_option maxRecDepth 100000 in
theorem xd_249a7329 : decode (ia_code 171) 166 = .ok (.ireturn, 1) := fdd_d (by decide +kernel)
set_option maxRecDepth 100000 in
theorem xr_2c7dc002 : ia_ret 171 = some .boolean := by decide +kernel
set_option maxRecDepth 100000 in
theorem xd_2bffe2a7 : decode (ia_code 171) 161 = .ok (.iconst 1, 1) := fdd_d (by decide +kernel)
set_option maxRecDepth 100000 in
theorem xd_38adfc0a : decode (ia_code 171) 162 = .ok (.goto 4, 3) := fdd_d (by decide +kernel)
set_option maxRecDepth 100000 in
theorem xd_de6c143c : decode (ia_code 171) 122 = .ok (.aload_n 0, 1) := fdd_d (by decide +kernel)
set_option maxRecDepth 100000 in
theorem xd_0aa0c56f : decode (ia_code 171) 123 = .ok (.getfield 34, 3) := fdd_d (by decide +kernel)
set_option maxRecDepth 100000 in
theorem xd_de30b5af : decode (ia_code 171) 126 = .ok (.aload_n 0, 1) := fdd_d (by decide +kernel)
set_option maxRecDepth 100000 in
theorem xd_34ed6295 : decode (ia_code 171) 127 = .ok (.getfield 38, 3) := fdd_d (by decide +kernel)
set_option maxRecDepth 100000 in
theorem xf_1b1a3ce4 : wk_gf 171 38 116 1 (4 + 3) = true := by decide +kernel
set_option maxRecDepth 100000 in
theorem xd_e058b7f0 : decode (ia_code 171) 130 = .ok (.iconst 2, 1) := fdd_d (by decide +kernel)
set_option maxRecDepth 100000 in
theorem xl_8633db12 : ia_pl (ia_cls 171) 77 = some (1, 188, 0, 0, 1242) := by decide +kernel
set_option maxRecDepth 100000 in
theorem xd_7d39b3e6 : decode (ia_code 171) 131 = .ok (.invokevirtual 77, 3) := fdd_d (by decide +kernel)
set_option maxRecDepth 100000 in
theorem xd_9b0f08af : decode (ia_code 171) 134 = .ok (.goto 13, 3) := fdd_d (by decide +kernel)
set_option maxRecDepth 100000 in
theorem xd_4b50a10b : decode (ia_code 171) 93 = .ok (.aload_n 0, 1) := fdd_d (by decide +kernel)
set_option maxRecDepth 100000 in
theorem xl_bb4a93da : ia_pl (ia_cls 171) 74 = some (1, 170, 0, 0, 1238) := by decide +kernel
set_option maxRecDepth 100000 in
theorem xn_5d7280d3 : ia_na 170 = 1 := by decide +kernel
set_option maxRecDepth 100000 in
theorem xc_9cfbfaf9 : ia_mc 170 = 0 ∧ ia_ms 170 = 0 := ⟨by decide +kernel, by decide +kernel⟩
set_option maxRecDepth 100000 in
theorem xv_cef308a9 : cm_rcv 170 [.inr (.inr (some 116))] = true := by decide +kernel
set_option maxRecDepth 100000 in
theorem xd_0c71f0cc : decode (ia_code 171) 94 = .ok (.invokevirtual 74, 3) := fdd_d (by decide +kernel)
set_option maxRecDepth 100000 in
theorem xd_540bef3e : decode (ia_code 171) 97 = .ok (.ireturn, 1) := fdd_d (by decide +kernel)
set_option maxRecDepth 100000 in
theorem xd_a845aac2 : decode (ia_code 171) 63 = .ok (.aload_n 0, 1) := fdd_d (by decide +kernel)
set_option maxRecDepth 100000 in
theorem xd_c79d8d58 : decode (ia_code 171) 64 = .ok (.getfield 34, 3) := fdd_d (by decide +kernel)
set_option maxRecDepth 100000 in
theorem xd_73659c44 : decode (ia_code 171) 67 = .ok (.iconst 4, 1) := fdd_d (by decide +kernel)
set_option maxRecDepth 100000 in
theorem xl_08bc40ac : ia_pl (ia_cls 171) 68 = some (1, 63, 0, 0, 1236) := by decide +kernel
set_option maxRecDepth 100000 in
theorem xd_94a080f6 : decode (ia_code 171) 68 = .ok (.invokevirtual 68, 3) := fdd_d (by decide +kernel)
set_option maxRecDepth 100000 in
theorem xd_69849678 : decode (ia_code 171) 71 = .ok (.ireturn, 1) := fdd_d (by decide +kernel)
set_option maxRecDepth 100000 in
theorem xd_0d330f9b : decode (ia_code 171) 0 = .ok (.aload_n 0, 1) := fdd_d (by decide +kernel)
set_option maxRecDepth 100000 in
theorem xd_6183f5f2 : decode (ia_code 171) 1 = .ok (.getfield 34, 3) := fdd_d (by decide +kernel)
set_option maxRecDepth 100000 in
theorem xd_a79831c4 : decode (ia_code 171) 4 = .ok (.getfield 61, 3) := fdd_d (by decide +kernel)
set_option maxRecDepth 100000 in
theorem xf_260261e2 : wk_gf 171 61 2 8 0 = true := by decide +kernel
set_option maxRecDepth 100000 in
theorem xd_cbd96f52 : decode (ia_code 171) 7 = .ok (.istore_n 1, 1) := fdd_d (by decide +kernel)
set_option maxRecDepth 100000 in
theorem xm_6cc5af68 : ia_maxL 171 = 4 := by decide +kernel
set_option maxRecDepth 100000 in
theorem xd_6ae9b660 : decode (ia_code 171) 8 = .ok (.iload_n 1, 1) := fdd_d (by decide +kernel)
set_option maxRecDepth 100000 in
theorem xd_e571e428 : decode (ia_code 171) 9 = .ok (.bipush 9, 2) := fdd_d (by decide +kernel)
set_option maxRecDepth 100000 in
theorem xd_14898242 : decode (ia_code 171) 11 = .ok (.if_icmp .eq 13, 3) := fdd_d (by decide +kernel)
set_option maxRecDepth 100000 in
theorem xd_bfc13657 : decode (ia_code 171) 24 = .ok (.iconst 0, 1) := fdd_d (by decide +kernel)
set_option maxRecDepth 100000 in
theorem xd_e4f3a5ab : decode (ia_code 171) 25 = .ok (.istore_n 2, 1) := fdd_d (by decide +kernel)
set_option maxRecDepth 100000 in
theorem xd_7aafffd7 : decode (ia_code 171) 26 = .ok (.iload_n 2, 1) := fdd_d (by decide +kernel)
set_option maxRecDepth 100000 in
theorem xd_05771894 : decode (ia_code 171) 27 = .ok (.ifCond .eq 18, 3) := fdd_d (by decide +kernel)
set_option maxRecDepth 100000 in
theorem xd_452320ed : decode (ia_code 171) 45 = .ok (.iconst 0, 1) := fdd_d (by decide +kernel)
set_option maxRecDepth 100000 in
theorem xd_ea564995 : decode (ia_code 171) 46 = .ok (.istore_n 3, 1) := fdd_d (by decide +kernel)
set_option maxRecDepth 100000 in
theorem xd_6c816ee3 : decode (ia_code 171) 47 = .ok (.iload_n 3, 1) := fdd_d (by decide +kernel)
set_option maxRecDepth 100000 in
theorem xd_01ea836d : decode (ia_code 171) 48 = .ok (.iconst (-1), 1) := fdd_d (by decide +kernel)
set_option maxRecDepth 100000 in
theorem xd_e4c2a6fe : decode (ia_code 171) 49 = .ok (.if_icmp .ne 5, 3) := fdd_d (by decide +kernel)
set_option maxRecDepth 100000 in
theorem xd_8887ffc6 : decode (ia_code 171) 14 = .ok (.iload_n 1, 1) := fdd_d (by decide +kernel)
set_option maxRecDepth 100000 in
theorem xd_f28f1c8b : decode (ia_code 171) 15 = .ok (.bipush 10, 2) := fdd_d (by decide +kernel)
set_option maxRecDepth 100000 in
theorem xd_2940d331 : decode (ia_code 171) 17 = .ok (.if_icmp .eq 7, 3) := fdd_d (by decide +kernel)
set_option maxRecDepth 100000 in
theorem xd_de008ce7 : decode (ia_code 171) 20 = .ok (.iconst 1, 1) := fdd_d (by decide +kernel)
set_option maxRecDepth 100000 in
theorem xd_57e79916 : decode (ia_code 171) 21 = .ok (.goto 4, 3) := fdd_d (by decide +kernel)
set_option maxRecDepth 100000 in
theorem xd_36836887 : decode (ia_code 171) 30 = .ok (.aload_n 0, 1) := fdd_d (by decide +kernel)
set_option maxRecDepth 100000 in
theorem xd_542267e4 : decode (ia_code 171) 31 = .ok (.getfield 34, 3) := fdd_d (by decide +kernel)
set_option maxRecDepth 100000 in
theorem xd_36dfc914 : decode (ia_code 171) 34 = .ok (.aload_n 0, 1) := fdd_d (by decide +kernel)
set_option maxRecDepth 100000 in
theorem xd_6a6fc01e : decode (ia_code 171) 35 = .ok (.getfield 38, 3) := fdd_d (by decide +kernel)
set_option maxRecDepth 100000 in
theorem xd_c1506983 : decode (ia_code 171) 38 = .ok (.iconst 0, 1) := fdd_d (by decide +kernel)
set_option maxRecDepth 100000 in
theorem xs_186_2ede1899 {a2 : Int32} {w : cm_W} (h2 : 0 ≤ a2.toInt ∧ a2.toInt ≤ 0) (hG : sv_w sg w) : ∃ x : Int32, ∃ w' : cm_W, cm_C 2 186 [.inr (.inr (some 2)), .inr (.inr (some 4)), .inl a2] w (some (.inl x), w') ∧ sv_w sg w' ∧ (∀ k i, ¬ ((k = 2 ∧ 11 ≤ i ∧ i ≤ 12)) → w'.1 k i = w.1 k i ∧ w'.2 k i = w.2 k i) ∧ ((x.toInt = (-1)) ∨ (0 ≤ x.toInt ∧ x.toInt ≤ 5)) := by
  obtain ⟨r, w', hC, hG', hF, q, hq, hr, hp, hs⟩ := wk_use (d := 2) sm_186_2ede1899_ok (by decide) (as := [.inr (.inr (some 2)), .inr (.inr (some 4)), .inl a2]) (w := w) ⟨rfl, rfl, hb_mk (lo := 2147483648) (hi := 2147483648) (by have := h2.1; omega) (by have := h2.2; omega), trivial⟩ (fun f hf => by
    cases hf) hG
  have hfr : ∀ k i, ¬ ((k = 2 ∧ 11 ≤ i ∧ i ≤ 12)) → w'.1 k i = w.1 k i ∧ w'.2 k i = w.2 k i := fun k i hki => hF k i (fun ⟨r, z, z1, z2, z3⟩ => by
    simp only [sm_186_2ede1899, List.mem_cons, List.not_mem_nil, or_false] at z
    rcases z with rfl
    all_goals (simp only at z1 z2 z3; omega))
  simp only [sm_186_2ede1899, List.mem_cons, List.not_mem_nil, or_false] at hq
  rcases hq with rfl | rfl
  · obtain ⟨x, rfl, hx⟩ := wk_int hr
    have hx := hb_in hx
    exact ⟨x, w', hC, hG', hfr, Or.inl (by omega)⟩
  · obtain ⟨x, rfl, hx⟩ := wk_int hr
    have hx := hb_in hx
    exact ⟨x, w', hC, hG', hfr, Or.inr (⟨by omega, by omega⟩)⟩
set_option maxRecDepth 100000 in
theorem xl_9ece86b4 : ia_pl (ia_cls 171) 64 = some (1, 186, 0, 0, 1235) := by decide +kernel
set_option maxRecDepth 100000 in
theorem xn_cd6aa68a : ia_na 186 = 3 := by decide +kernel
set_option maxRecDepth 100000 in
theorem xc_ec32c43f : ia_mc 186 = 0 ∧ ia_ms 186 = 0 := ⟨by decide +kernel, by decide +kernel⟩
set_option maxRecDepth 100000 in
theorem xv_5ef21940 : cm_rcv 186 [.inr (.inr (some 2))] = true := by decide +kernel
set_option maxRecDepth 100000 in
theorem xd_5848c56a : decode (ia_code 171) 39 = .ok (.invokevirtual 64, 3) := fdd_d (by decide +kernel)
set_option maxRecDepth 100000 in
theorem xd_0e73d11a : decode (ia_code 171) 42 = .ok (.goto 4, 3) := fdd_d (by decide +kernel)
set_option maxRecDepth 100000 in
theorem xd_bb89f479 : decode (ia_code 171) 52 = .ok (.iconst 0, 1) := fdd_d (by decide +kernel)
set_option maxRecDepth 100000 in
theorem xd_a3105e85 : decode (ia_code 171) 53 = .ok (.ireturn, 1) := fdd_d (by decide +kernel)
set_option maxRecDepth 100000 in
theorem xd_2b8ffb9a : decode (ia_code 50) 7 = .ok (.iload_n 1, 1) := fdd_d (by decide +kernel)
set_option maxRecDepth 100000 in
theorem xd_ec39b838 : decode (ia_code 50) 8 = .ok (.bipush 40, 2) := fdd_d (by decide +kernel)
set_option maxRecDepth 100000 in
theorem xd_b8ae0f0a : decode (ia_code 50) 10 = .ok (.if_icmp .gt 58, 3) := fdd_d (by decide +kernel)
set_option maxRecDepth 100000 in
theorem xd_6d19b4b6 : decode (ia_code 50) 68 = .ok (.iconst 0, 1) := fdd_d (by decide +kernel)
set_option maxRecDepth 100000 in
theorem xd_e5f37925 : decode (ia_code 50) 69 = .ok (.ireturn, 1) := fdd_d (by decide +kernel)
set_option maxRecDepth 100000 in
theorem xr_00814a6a : ia_ret 50 = some .boolean := by decide +kernel
set_option maxRecDepth 100000 in
theorem xd_2761eb33 : decode (ia_code 50) 13 = .ok (.aload_n 0, 1) := fdd_d (by decide +kernel)
set_option maxRecDepth 100000 in
theorem xd_cbe1a386 : decode (ia_code 50) 14 = .ok (.getfield 34, 3) := fdd_d (by decide +kernel)
set_option maxRecDepth 100000 in
theorem xf_0c298976 : wk_gf 50 34 116 0 (2 + 3) = true := by decide +kernel
set_option maxRecDepth 100000 in
theorem xd_de690cdd : decode (ia_code 50) 17 = .ok (.getfield 45, 3) := fdd_d (by decide +kernel)
set_option maxRecDepth 100000 in
theorem xf_82cfb342 : wk_gf 50 45 2 5 0 = true := by decide +kernel
set_option maxRecDepth 100000 in
theorem xd_6772871e : decode (ia_code 50) 20 = .ok (.ifCond .ne 11, 3) := fdd_d (by decide +kernel)
set_option maxRecDepth 100000 in
theorem xd_13ccf4d5 : decode (ia_code 50) 31 = .ok (.aload_n 0, 1) := fdd_d (by decide +kernel)
set_option maxRecDepth 100000 in
theorem xl_2935d42a : ia_pl (ia_cls 50) 54 = some (1, 171, 0, 0, 1231) := by decide +kernel
set_option maxRecDepth 100000 in
theorem xn_6012a963 : ia_na 171 = 1 := by decide +kernel
set_option maxRecDepth 100000 in
theorem xc_3ae8399d : ia_mc 171 = 0 ∧ ia_ms 171 = 0 := ⟨by decide +kernel, by decide +kernel⟩
set_option maxRecDepth 100000 in
theorem xv_f801985a : cm_rcv 171 [.inr (.inr (some 116))] = true := by decide +kernel
set_option maxRecDepth 100000 in
theorem xd_0dcad1e7 : decode (ia_code 50) 32 = .ok (.invokevirtual 54, 3) := fdd_d (by decide +kernel)
set_option maxRecDepth 100000 in
theorem xd_e62e0dcb : decode (ia_code 50) 35 = .ok (.ifCond .eq 15, 3) := fdd_d (by decide +kernel)
set_option maxRecDepth 100000 in
theorem xd_a2bfab8b : decode (ia_code 50) 50 = .ok (.iconst 0, 1) := fdd_d (by decide +kernel)
set_option maxRecDepth 100000 in
theorem xd_f979dd13 : decode (ia_code 50) 51 = .ok (.ireturn, 1) := fdd_d (by decide +kernel)
set_option maxRecDepth 100000 in
theorem xd_88065d27 : decode (ia_code 50) 38 = .ok (.aload_n 0, 1) := fdd_d (by decide +kernel)
set_option maxRecDepth 100000 in
theorem xd_ac96a1ab : decode (ia_code 50) 39 = .ok (.getfield 34, 3) := fdd_d (by decide +kernel)
set_option maxRecDepth 100000 in
theorem xd_44a829bc : decode (ia_code 50) 42 = .ok (.bipush 59, 2) := fdd_d (by decide +kernel)
set_option maxRecDepth 100000 in
theorem xl_8479a485 : ia_pl (ia_cls 50) 57 = some (1, 190, 0, 0, 1244) := by decide +kernel
set_option maxRecDepth 100000 in
theorem xd_eb9f7b30 : decode (ia_code 50) 44 = .ok (.invokevirtual 57, 3) := fdd_d (by decide +kernel)
set_option maxRecDepth 100000 in
theorem xd_0659ec7b : decode (ia_code 50) 47 = .ok (.ifCond .ne 5, 3) := fdd_d (by decide +kernel)
set_option maxRecDepth 100000 in
theorem xd_d5149fb8 : decode (ia_code 50) 52 = .ok (.aload_n 0, 1) := fdd_d (by decide +kernel)
set_option maxRecDepth 100000 in
theorem xd_e0dc8175 : decode (ia_code 50) 53 = .ok (.dup, 1) := fdd_d (by decide +kernel)
set_option maxRecDepth 100000 in
theorem xd_7330f040 : decode (ia_code 50) 54 = .ok (.getfield 42, 3) := fdd_d (by decide +kernel)
set_option maxRecDepth 100000 in
theorem xf_7558e797 : wk_gf 50 42 116 2 0 = true := by decide +kernel
set_option maxRecDepth 100000 in
theorem xd_fa06bc7b : decode (ia_code 50) 57 = .ok (.iconst 1, 1) := fdd_d (by decide +kernel)
set_option maxRecDepth 100000 in
theorem xd_60914d12 : decode (ia_code 50) 58 = .ok (.iadd, 1) := fdd_d (by decide +kernel)
set_option maxRecDepth 100000 in
theorem xd_b8dc153b : decode (ia_code 50) 59 = .ok (.putfield 42, 3) := fdd_d (by decide +kernel)
set_option maxRecDepth 100000 in
theorem xf_0293f975 : wk_pf 50 42 116 2 0 = true := by decide +kernel
set_option maxRecDepth 100000 in
theorem xg_4b821ff3 : sv_g sg 116 2 = (2147483648, 2147483688) := by decide +kernel
set_option maxRecDepth 100000 in
theorem xd_c4e46a12 : decode (ia_code 50) 62 = .ok (.iinc 1 1, 3) := fdd_d (by decide +kernel)
set_option maxRecDepth 100000 in
theorem xm_156f76cd : ia_maxL 50 = 2 := by decide +kernel
set_option maxRecDepth 100000 in
theorem xd_691562f0 : decode (ia_code 50) 65 = .ok (.goto (-58), 3) := fdd_d (by decide +kernel)
set_option maxRecDepth 100000 in
theorem xd_7f7f421b : decode (ia_code 50) 23 = .ok (.aload_n 0, 1) := fdd_d (by decide +kernel)
set_option maxRecDepth 100000 in
theorem xd_39b64e7e : decode (ia_code 50) 24 = .ok (.getfield 34, 3) := fdd_d (by decide +kernel)
set_option maxRecDepth 100000 in
theorem xl_fa876ce9 : ia_pl (ia_cls 50) 50 = some (1, 59, 0, 0, 1230) := by decide +kernel
set_option maxRecDepth 100000 in
theorem xd_3b4ef0de : decode (ia_code 50) 27 = .ok (.invokevirtual 50, 3) := fdd_d (by decide +kernel)
set_option maxRecDepth 100000 in
theorem xd_1452040d : decode (ia_code 50) 30 = .ok (.ireturn, 1) := fdd_d (by decide +kernel)
set_option maxRecDepth 100000 in
theorem xd_3a5599e9 : decode (ia_code 50) 0 = .ok (.aload_n 0, 1) := fdd_d (by decide +kernel)
set_option maxRecDepth 100000 in
theorem xd_0fd17d88 : decode (ia_code 50) 1 = .ok (.iconst 0, 1) := fdd_d (by decide +kernel)
set_option maxRecDepth 100000 in
theorem xd_7b9f30e3 : decode (ia_code 50) 2 = .ok (.putfield 42, 3) := fdd_d (by decide +kernel)
set_option maxRecDepth 100000 in
theorem xd_5370ee88 : decode (ia_code 50) 5 = .ok (.iconst 0, 1) := fdd_d (by decide +kernel)
set_option maxRecDepth 100000 in
theorem xd_f4c07cf3 : decode (ia_code 50) 6 = .ok (.istore_n 1, 1) := fdd_d (by decide +kernel)
/-- a line of a book of the class -/
def jBw (w : cm_W) (i : Nat) : Prop := ((w.1 117 i).toInt = 6 ∧ 0 ≤ (w.1 119 i).toInt ∧ (w.1 119 i).toInt ≤ 3) ∨ (w.1 117 i).toInt = 7 ∨ (w.1 117 i).toInt = 8 ∨ ((w.1 117 i).toInt = 9 ∧ 0 ≤ (w.1 119 i).toInt ∧ (w.1 119 i).toInt ≤ 5) ∨ ((w.1 117 i).toInt = 10 ∧ 1 ≤ (w.1 119 i).toInt ∧ (w.1 119 i).toInt ≤ 60)
theorem jBw_eq {w w' : cm_W} {i : Nat} (h1 : w'.1 117 i = w.1 117 i) (h2 : w'.1 119 i = w.1 119 i) (h : jBw w i) : jBw w' i := by
  unfold jBw at h ⊢
  rw [h1, h2]
  exact h
/-- what reading a line may change -/
def jBg (n : Nat) (w0 w : cm_W) : Prop := ∀ k i, k ≠ 2 → ¬ (117 ≤ k ∧ k ≤ 119 ∧ n ≤ i) → w.1 k i = w0.1 k i
theorem jBg_rf {n : Nat} {a : cm_W} : jBg n a a := fun _ _ _ _ => rfl
theorem jtv_ok {w : cm_W} {a b : Int32} (hG : sv_w sg w) : ∃ x w', cm_C 3 189 [.inr (.inr (some 2)), .inl a, .inl b] w (some (.inl x), w') ∧ sv_w sg w' ∧ jO2 w w' ∧ ((a.toInt ≤ x.toInt ∧ x.toInt ≤ b.toInt) ∨ x.toInt = -1) := by
  have h : ∃ o, cm_C (2 + 1) 189 [.inr (.inr (some 2)), .inl a, .inl b] w o ∧ (fun o : cm_O => ∃ x w', o = (some (.inl x), w') ∧ sv_w sg w' ∧ jO2 w w' ∧ ((a.toInt ≤ x.toInt ∧ x.toInt ≤ b.toInt) ∨ x.toInt = -1)) o := by
    refine wk_entry (by rw [xm_ade3567c]; exact Nat.le_of_ble_eq_true rfl) ?_
    rw [show cm_ent 189 [.inr (.inr (some 2)), .inl a, .inl b] = [some (.inr (.inr (some 2))), some (.inl a), some (.inl b), none] from by unfold cm_ent; rw [xm_ade3567c]; rfl]
    refine wk_aload_n xd_484db22b rfl ?_
    refine wk_getI xf_47306fc9 xd_605b40b6 ?_
    refine wk_iconst xd_1cb4b75e ?_
    refine wk_icmp xd_3f822996 (t := 17) rfl (fun h5_0 => ?_) (fun h5_0 => ?_)
    · have h5_0 := aw_eq_t (a := ((w.1 2 5).toInt : Int)) (b := (3 : Int)) rfl (show ((Int32.ofInt 3)).toInt = 3 from by decide) h5_0
      refine wk_aload_n xd_5225f117 rfl ?_
      refine wk_getI xf_98967174 xd_3751656f ?_
      refine wk_iload_n xd_8092d098 rfl ?_
      refine wk_icmp xd_22f04202 (t := 33) rfl (fun h22_1 => ?_) (fun h22_1 => ?_)
      · have h22_1 := aw_lt_t (a := ((w.1 2 9).toInt : Int)) (b := ((a).toInt : Int)) rfl rfl h22_1
        refine wk_aload_n xd_8b429c8b rfl ?_
        refine wk_iconst xd_1b0c3253 ?_
        obtain ⟨xr, wr, hCr, hGr, hFr, hr0, hr1⟩ := jrf_ok (w := w) (a := (Int32.ofInt 2)) (by decide) hG
        refine wk_call (kd := 0) (i := 80) xd_6858d3b4 rfl (wk_cal (as := [.inr (.inr (some 2)), .inl (Int32.ofInt 2)]) (t := []) xl_726d40f2 rfl xn_b5464d7d xc_49a83f99 rfl rfl xv_780065b9 rfl) (cm_C_mono (by omega) hCr) ?_
        have hf3_ : jO2 w wr := fun k i x1 => (hFr k i (by omega)).trans ((fun _ _ _ => rfl) k i x1)
        refine wk_pop xd_3cfdab2b ?_
        refine wk_aload_n xd_666d0c44 rfl ?_
        obtain ⟨xg4_, hCg4_, hxg4_⟩ := jig_ok wr
        refine wk_call (kd := 0) (i := 87) xd_3f2cfabb rfl (wk_cal (as := [.inr (.inr (some 2))]) (t := []) xl_be386658 rfl xn_59a494c6 xc_7b6444b6 rfl rfl xv_433dc8e2 rfl) (cm_C_mono (by omega) hCg4_) ?_
        refine wk_if xd_f8817d60 (t := 48) rfl (fun h43_4 => ?_) (fun h43_4 => ?_)
        · have h43_4 := aw_ne_t (a := ((xg4_).toInt : Int)) (b := (0 : Int)) rfl hb_z h43_4
          have hg0 : (wr.1 2 11).toInt = 0 := by omega
          refine wk_aload_n xd_cc06d1e7 rfl ?_
          refine wk_getI xf_98967174 xd_5f53c528 ?_
          refine wk_istore_n xd_77ce6333 (by rw [xm_ade3567c]; rfl) rfl ?_
          refine wk_aload_n xd_3b7fcedb rfl ?_
          obtain ⟨wc6_, hCc6_, hGc6_, hFc6_, hxc6_⟩ := xs_61_078b38e8 (w := wr) hGr
          refine wk_call (kd := 0) (i := 55) xd_0616def4 rfl (wk_cal (as := [.inr (.inr (some 2))]) (t := []) xl_14b5b052 rfl xn_568f4fa7 xc_1d38a579 rfl rfl xv_65cfb41b rfl) (cm_C_mono (by omega) hCc6_) ?_
          have hf7_ : jO2 w wc6_ := fun k i x1 => ((hFc6_ k i (by omega)).1).trans (hf3_ k i x1)
          refine wk_iload_n xd_2680c6f5 rfl ?_
          exact wk_ireturn xd_5c1d103d xr_df255d1e rfl ⟨_, _, rfl, hGc6_, hf7_, .inl ⟨by omega, by omega⟩⟩
        · have h43_4 := aw_ne_f (a := ((xg4_).toInt : Int)) (b := (0 : Int)) rfl hb_z h43_4
          refine wk_iconst xd_65b20ee7 ?_
          exact wk_ireturn xd_0720fbd3 xr_df255d1e rfl ⟨_, _, rfl, hGr, hf3_, .inr (by decide)⟩
      · have h22_1 := aw_lt_f (a := ((w.1 2 9).toInt : Int)) (b := ((a).toInt : Int)) rfl rfl h22_1
        refine wk_aload_n xd_e7ad8bd6 rfl ?_
        refine wk_getI xf_98967174 xd_82d67786 ?_
        refine wk_iload_n xd_c78be96e rfl ?_
        refine wk_icmp xd_e7ae1253 (t := 39) rfl (fun h30_7 => ?_) (fun h30_7 => ?_)
        · have h30_7 := aw_le_t (a := ((w.1 2 9).toInt : Int)) (b := ((b).toInt : Int)) rfl rfl h30_7
          refine wk_aload_n xd_666d0c44 rfl ?_
          obtain ⟨xg9_, hCg9_, hxg9_⟩ := jig_ok w
          refine wk_call (kd := 0) (i := 87) xd_3f2cfabb rfl (wk_cal (as := [.inr (.inr (some 2))]) (t := []) xl_be386658 rfl xn_59a494c6 xc_7b6444b6 rfl rfl xv_433dc8e2 rfl) (cm_C_mono (by omega) hCg9_) ?_
          refine wk_if xd_f8817d60 (t := 48) rfl (fun h43_9 => ?_) (fun h43_9 => ?_)
          · have h43_9 := aw_ne_t (a := ((xg9_).toInt : Int)) (b := (0 : Int)) rfl hb_z h43_9
            have hg0 : (w.1 2 11).toInt = 0 := by omega
            refine wk_aload_n xd_cc06d1e7 rfl ?_
            refine wk_getI xf_98967174 xd_5f53c528 ?_
            refine wk_istore_n xd_77ce6333 (by rw [xm_ade3567c]; rfl) rfl ?_
            refine wk_aload_n xd_3b7fcedb rfl ?_
            obtain ⟨wc11_, hCc11_, hGc11_, hFc11_, hxc11_⟩ := xs_61_078b38e8 (w := w) hG
            refine wk_call (kd := 0) (i := 55) xd_0616def4 rfl (wk_cal (as := [.inr (.inr (some 2))]) (t := []) xl_14b5b052 rfl xn_568f4fa7 xc_1d38a579 rfl rfl xv_65cfb41b rfl) (cm_C_mono (by omega) hCc11_) ?_
            have hf12_ : jO2 w wc11_ := fun k i x1 => ((hFc11_ k i (by omega)).1).trans ((fun _ _ _ => rfl) k i x1)
            refine wk_iload_n xd_2680c6f5 rfl ?_
            exact wk_ireturn xd_5c1d103d xr_df255d1e rfl ⟨_, _, rfl, hGc11_, hf12_, .inl ⟨by omega, by omega⟩⟩
          · have h43_9 := aw_ne_f (a := ((xg9_).toInt : Int)) (b := (0 : Int)) rfl hb_z h43_9
            refine wk_iconst xd_65b20ee7 ?_
            exact wk_ireturn xd_0720fbd3 xr_df255d1e rfl ⟨_, _, rfl, hG, (fun _ _ _ => rfl), .inr (by decide)⟩
        · have h30_7 := aw_le_f (a := ((w.1 2 9).toInt : Int)) (b := ((b).toInt : Int)) rfl rfl h30_7
          refine wk_aload_n xd_8b429c8b rfl ?_
          refine wk_iconst xd_1b0c3253 ?_
          obtain ⟨xr, wr, hCr, hGr, hFr, hr0, hr1⟩ := jrf_ok (w := w) (a := (Int32.ofInt 2)) (by decide) hG
          refine wk_call (kd := 0) (i := 80) xd_6858d3b4 rfl (wk_cal (as := [.inr (.inr (some 2)), .inl (Int32.ofInt 2)]) (t := []) xl_726d40f2 rfl xn_b5464d7d xc_49a83f99 rfl rfl xv_780065b9 rfl) (cm_C_mono (by omega) hCr) ?_
          have hf13_ : jO2 w wr := fun k i x1 => (hFr k i (by omega)).trans ((fun _ _ _ => rfl) k i x1)
          refine wk_pop xd_3cfdab2b ?_
          refine wk_aload_n xd_666d0c44 rfl ?_
          obtain ⟨xg14_, hCg14_, hxg14_⟩ := jig_ok wr
          refine wk_call (kd := 0) (i := 87) xd_3f2cfabb rfl (wk_cal (as := [.inr (.inr (some 2))]) (t := []) xl_be386658 rfl xn_59a494c6 xc_7b6444b6 rfl rfl xv_433dc8e2 rfl) (cm_C_mono (by omega) hCg14_) ?_
          refine wk_if xd_f8817d60 (t := 48) rfl (fun h43_14 => ?_) (fun h43_14 => ?_)
          · have h43_14 := aw_ne_t (a := ((xg14_).toInt : Int)) (b := (0 : Int)) rfl hb_z h43_14
            have hg0 : (wr.1 2 11).toInt = 0 := by omega
            refine wk_aload_n xd_cc06d1e7 rfl ?_
            refine wk_getI xf_98967174 xd_5f53c528 ?_
            refine wk_istore_n xd_77ce6333 (by rw [xm_ade3567c]; rfl) rfl ?_
            refine wk_aload_n xd_3b7fcedb rfl ?_
            obtain ⟨wc16_, hCc16_, hGc16_, hFc16_, hxc16_⟩ := xs_61_078b38e8 (w := wr) hGr
            refine wk_call (kd := 0) (i := 55) xd_0616def4 rfl (wk_cal (as := [.inr (.inr (some 2))]) (t := []) xl_14b5b052 rfl xn_568f4fa7 xc_1d38a579 rfl rfl xv_65cfb41b rfl) (cm_C_mono (by omega) hCc16_) ?_
            have hf17_ : jO2 w wc16_ := fun k i x1 => ((hFc16_ k i (by omega)).1).trans (hf13_ k i x1)
            refine wk_iload_n xd_2680c6f5 rfl ?_
            exact wk_ireturn xd_5c1d103d xr_df255d1e rfl ⟨_, _, rfl, hGc16_, hf17_, .inl ⟨by omega, by omega⟩⟩
          · have h43_14 := aw_ne_f (a := ((xg14_).toInt : Int)) (b := (0 : Int)) rfl hb_z h43_14
            refine wk_iconst xd_65b20ee7 ?_
            exact wk_ireturn xd_0720fbd3 xr_df255d1e rfl ⟨_, _, rfl, hGr, hf13_, .inr (by decide)⟩
    · have h5_0 := aw_eq_f (a := ((w.1 2 5).toInt : Int)) (b := (3 : Int)) rfl (show ((Int32.ofInt 3)).toInt = 3 from by decide) h5_0
      refine wk_aload_n xd_48f4f10d rfl ?_
      refine wk_iconst xd_94be35fe ?_
      obtain ⟨xr, wr, hCr, hGr, hFr, hr0, hr1⟩ := jrf_ok (w := w) (a := (Int32.ofInt 1)) (by decide) hG
      refine wk_call (kd := 0) (i := 80) xd_b8746d3e rfl (wk_cal (as := [.inr (.inr (some 2)), .inl (Int32.ofInt 1)]) (t := []) xl_726d40f2 rfl xn_b5464d7d xc_49a83f99 rfl rfl xv_780065b9 rfl) (cm_C_mono (by omega) hCr) ?_
      have hf18_ : jO2 w wr := fun k i x1 => (hFr k i (by omega)).trans ((fun _ _ _ => rfl) k i x1)
      refine wk_pop xd_8ca3d4b2 ?_
      refine wk_goto xd_2ebb84c5 (t := 39) rfl ?_
      refine wk_aload_n xd_666d0c44 rfl ?_
      obtain ⟨xg19_, hCg19_, hxg19_⟩ := jig_ok wr
      refine wk_call (kd := 0) (i := 87) xd_3f2cfabb rfl (wk_cal (as := [.inr (.inr (some 2))]) (t := []) xl_be386658 rfl xn_59a494c6 xc_7b6444b6 rfl rfl xv_433dc8e2 rfl) (cm_C_mono (by omega) hCg19_) ?_
      refine wk_if xd_f8817d60 (t := 48) rfl (fun h43_19 => ?_) (fun h43_19 => ?_)
      · have h43_19 := aw_ne_t (a := ((xg19_).toInt : Int)) (b := (0 : Int)) rfl hb_z h43_19
        have hg0 : (wr.1 2 11).toInt = 0 := by omega
        refine wk_aload_n xd_cc06d1e7 rfl ?_
        refine wk_getI xf_98967174 xd_5f53c528 ?_
        refine wk_istore_n xd_77ce6333 (by rw [xm_ade3567c]; rfl) rfl ?_
        refine wk_aload_n xd_3b7fcedb rfl ?_
        obtain ⟨wc21_, hCc21_, hGc21_, hFc21_, hxc21_⟩ := xs_61_078b38e8 (w := wr) hGr
        refine wk_call (kd := 0) (i := 55) xd_0616def4 rfl (wk_cal (as := [.inr (.inr (some 2))]) (t := []) xl_14b5b052 rfl xn_568f4fa7 xc_1d38a579 rfl rfl xv_65cfb41b rfl) (cm_C_mono (by omega) hCc21_) ?_
        have hf22_ : jO2 w wc21_ := fun k i x1 => ((hFc21_ k i (by omega)).1).trans (hf18_ k i x1)
        refine wk_iload_n xd_2680c6f5 rfl ?_
        exact wk_ireturn xd_5c1d103d xr_df255d1e rfl ⟨_, _, rfl, hGc21_, hf22_, .inl ⟨by omega, by omega⟩⟩
      · have h43_19 := aw_ne_f (a := ((xg19_).toInt : Int)) (b := (0 : Int)) rfl hb_z h43_19
        refine wk_iconst xd_65b20ee7 ?_
        exact wk_ireturn xd_0720fbd3 xr_df255d1e rfl ⟨_, _, rfl, hGr, hf18_, .inr (by decide)⟩
  obtain ⟨o, hC, x, w', rfl, a⟩ := h
  exact ⟨x, w', hC, a⟩
theorem jac_35 {w : cm_W} {n : Nat} (q : Int32) (hn : (w.1 116 2).toInt = ((n : Int) : Int)) (hn40 : n < 40) (hq : q.toInt = 6 ∨ q.toInt = 7 ∨ q.toInt = 8) (hG : sv_w sg w) : cm_X (cm_C 4) 170 35 [some (.inr (.inr (some 116))), some (.inl q)] [] w (fun o : cm_O => ∃ x w', o = (some (.inl x), w') ∧ sv_w sg w' ∧ jBg n w w' ∧ 0 ≤ x.toInt ∧ x.toInt ≤ 1 ∧ (x.toInt = 1 → jBw w' n)) := by
  have hF0 : jBg n w w := jBg_rf
  refine wk_aload_n xd_c3203881 rfl ?_
  refine wk_getR xf_55fe57a6 xd_f9754268 ?_
  obtain ⟨wN, hCN, hGN, hFN, hxN⟩ := xs_61_078b38e8 (w := w) hG
  refine wk_call (kd := 0) (i := 71) xd_7f76c889 rfl (wk_cal (as := [.inr (.inr (some 2))]) (t := []) xl_6e0e7c3b rfl xn_568f4fa7 xc_1d38a579 rfl rfl xv_65cfb41b rfl) (cm_C_mono (by omega) hCN) ?_
  have hf1_ : jBg n w wN := fun k i x1 x2 => ((hFN k i (by omega)).1).trans (hF0 k i x1 x2)
  have hnN : (wN.1 116 2).toInt = ((n : Int) : Int) := by rw [(hFN 116 2 (by omega)).1]; exact hn
  refine wk_aload_n xd_84819758 rfl ?_
  refine wk_getR xf_3b6872e6 xd_faa8cdc0 ?_
  refine wk_aload_n xd_84dd36cb rfl ?_
  refine wk_getI xf_fac211bd xd_16786c58 ?_
  refine wk_iload_n xd_8f51db4b rfl ?_
  refine aw_iastore (i := n) xf_cc076ad5 (show ((wN.1 116 2)).toInt = ((n : Int) : Int) from hnN) (by omega) (by omega) xd_45623c77 ?_
  have hf2_ : jBg n w (cm_u1 wN 117 n q) := fun k i x1 x2 => (hs_u1_ne (by omega)).trans (hf1_ k i x1 x2)
  have hG3_ : sv_w sg (cm_u1 wN 117 n q) := sv_w_u1 hGN (by rw [aw_tv2 xf_bcf02dc0]; exact sv_in_top _)
  refine wk_aload_n xd_05a4f27f rfl ?_
  refine wk_getR xf_9cda9b4a xd_10a50926 ?_
  refine wk_aload_n xd_05f853ec rfl ?_
  refine wk_getI xf_fac211bd xd_f165cacf ?_
  refine wk_iload_n xd_d74f7263 rfl ?_
  refine wk_bipush xd_7c176c09 ?_
  refine wk_icmp xd_192ae472 (t := 81) rfl (fun h63_3 => ?_) (fun h63_3 => ?_)
  · have h63_3 := aw_ne_t (a := ((q).toInt : Int)) (b := (6 : Int)) rfl (show (((Int8.ofInt 6).toInt32)).toInt = 6 from by decide) h63_3
    refine wk_iconst xd_fe7af7cf ?_
    refine aw_iastore (i := n) xf_079c3f55 (show (((cm_u1 wN 117 n q).1 116 2)).toInt = ((n : Int) : Int) from hnN) (by omega) (by omega) xd_ccb66f54 ?_
    have hf5_ : jBg n w (cm_u1 (cm_u1 wN 117 n q) 119 n (Int32.ofInt 0)) := fun k i x1 x2 => (hs_u1_ne (by omega)).trans (hf2_ k i x1 x2)
    have hG6_ : sv_w sg (cm_u1 (cm_u1 wN 117 n q) 119 n (Int32.ofInt 0)) := sv_w_u1 hG3_ (by rw [aw_tv2 xf_86fa4cb0]; exact sv_in_top _)
    refine wk_aload_n xd_a4f9df6d rfl ?_
    refine wk_getR xf_9cda9b4a xd_4655e87b ?_
    refine wk_aload_n xd_a4a57efe rfl ?_
    refine wk_getI xf_fac211bd xd_8b9eb825 ?_
    refine aw_iaload (i := n) xf_079c3f55 (show (((cm_u1 (cm_u1 wN 117 n q) 119 n (Int32.ofInt 0)).1 116 2)).toInt = ((n : Int) : Int) from hnN) (by omega) (by omega) xd_3f5ac29b ?_
    refine wk_iconst xd_4620f256 ?_
    refine wk_icmp xd_4b49b84d (t := 100) rfl (fun h93_6 => ?_) (fun h93_6 => ?_)
    · have h93_6 := aw_eq_t (a := (((cm_u1 (cm_u1 wN 117 n q) 119 n (Int32.ofInt 0)).1 119 n).toInt : Int)) (b := ((-1) : Int)) rfl (show ((Int32.ofInt (-1))).toInt = (-1) from by decide) h93_6
      refine wk_iconst xd_82f1c6ec ?_
      exact wk_ireturn xd_d8910966 xr_abdb0b41 wk_z0 ⟨_, _, rfl, hG6_, hf5_, by decide, by decide, fun h => absurd h (by decide)⟩
    · have h93_6 := aw_eq_f (a := (((cm_u1 (cm_u1 wN 117 n q) 119 n (Int32.ofInt 0)).1 119 n).toInt : Int)) (b := ((-1) : Int)) rfl (show ((Int32.ofInt (-1))).toInt = (-1) from by decide) h93_6
      refine wk_iconst xd_3db00aeb ?_
      refine wk_goto xd_0c0dea71 (t := 101) rfl ?_
      exact wk_ireturn xd_d8910966 xr_abdb0b41 wk_z1 ⟨_, _, rfl, hG6_, hf5_, by decide, by decide, fun _ => (show ((cm_u1 (cm_u1 wN 117 n q) 119 n (Int32.ofInt 0)).1 117 n).toInt = 7 ∨ ((cm_u1 (cm_u1 wN 117 n q) 119 n (Int32.ofInt 0)).1 117 n).toInt = 8 by rw [hs_u1_ne (by omega), hs_u1_self]; omega).elim (fun h => .inr (.inl h)) (fun h => .inr (.inr (.inl h)))⟩
  · have h63_3 := aw_ne_f (a := ((q).toInt : Int)) (b := (6 : Int)) rfl (show (((Int8.ofInt 6).toInt32)).toInt = 6 from by decide) h63_3
    refine wk_aload_n xd_5de6fac4 rfl ?_
    refine wk_getR xf_55fe57a6 xd_9177e22f ?_
    refine wk_aload_n xd_3109ed99 rfl ?_
    refine wk_getR xf_be91acea xd_d841c51f ?_
    refine wk_iconst xd_fe93f237 ?_
    obtain ⟨xT, wT, hCT, hGT, hFT, hxT⟩ := xs_188_ba632675 (w := (cm_u1 wN 117 n q)) (a2 := (Int32.ofInt 1)) (by have e9 : ((Int32.ofInt 1)).toInt = (1 : Int) := (show ((Int32.ofInt 1)).toInt = 1 from by decide); exact ⟨by omega, by omega⟩) hG3_
    refine wk_call (kd := 0) (i := 77) xd_025c0c4c rfl (wk_cal (as := [.inr (.inr (some 2)), .inr (.inr (some 4)), .inl (Int32.ofInt 1)]) (t := [.inl ((cm_u1 wN 117 n q).1 116 2), .inr (.inr (some 119))]) xl_b0c14be1 rfl xn_725a18eb xc_be714b02 rfl rfl xv_0f9d2d2e rfl) (cm_C_mono (by omega) hCT) ?_
    have hf8_ : jBg n w wT := fun k i x1 x2 => ((hFT k i (by omega)).1).trans (hf2_ k i x1 x2)
    have hnT : (wT.1 116 2).toInt = ((n : Int) : Int) := by rw [(hFT 116 2 (by omega)).1]; exact hnN
    refine wk_goto xd_a35d96e0 (t := 82) rfl ?_
    refine aw_iastore (i := n) xf_079c3f55 (show (((cm_u1 wN 117 n q).1 116 2)).toInt = ((n : Int) : Int) from hnN) (by omega) (by omega) xd_ccb66f54 ?_
    have hf9_ : jBg n w (cm_u1 wT 119 n xT) := fun k i x1 x2 => (hs_u1_ne (by omega)).trans (hf8_ k i x1 x2)
    have hG10_ : sv_w sg (cm_u1 wT 119 n xT) := sv_w_u1 hGT (by rw [aw_tv2 xf_86fa4cb0]; exact sv_in_top _)
    refine wk_aload_n xd_a4f9df6d rfl ?_
    refine wk_getR xf_9cda9b4a xd_4655e87b ?_
    refine wk_aload_n xd_a4a57efe rfl ?_
    refine wk_getI xf_fac211bd xd_8b9eb825 ?_
    refine aw_iaload (i := n) xf_079c3f55 (show (((cm_u1 wT 119 n xT).1 116 2)).toInt = ((n : Int) : Int) from hnT) (by omega) (by omega) xd_3f5ac29b ?_
    refine wk_iconst xd_4620f256 ?_
    refine wk_icmp xd_4b49b84d (t := 100) rfl (fun h93_10 => ?_) (fun h93_10 => ?_)
    · have h93_10 := aw_eq_t (a := (((cm_u1 wT 119 n xT).1 119 n).toInt : Int)) (b := ((-1) : Int)) rfl (show ((Int32.ofInt (-1))).toInt = (-1) from by decide) h93_10
      refine wk_iconst xd_82f1c6ec ?_
      exact wk_ireturn xd_d8910966 xr_abdb0b41 wk_z0 ⟨_, _, rfl, hG10_, hf9_, by decide, by decide, fun h => absurd h (by decide)⟩
    · have h93_10 := aw_eq_f (a := (((cm_u1 wT 119 n xT).1 119 n).toInt : Int)) (b := ((-1) : Int)) rfl (show ((Int32.ofInt (-1))).toInt = (-1) from by decide) h93_10
      refine wk_iconst xd_3db00aeb ?_
      refine wk_goto xd_0c0dea71 (t := 101) rfl ?_
      have he : (cm_u1 wT 119 n xT).1 119 n = xT := hs_u1_self
      have hxT1 : xT.toInt ≠ -1 := fun h => by
        rw [← he] at h
        omega
      exact wk_ireturn xd_d8910966 xr_abdb0b41 wk_z1 ⟨_, _, rfl, hG10_, hf9_, by decide, by decide, fun _ => .inl ⟨by show ((cm_u1 wT 119 n xT).1 117 n).toInt = 6; rw [hs_u1_ne (by omega), (hFT 117 n (by omega)).1, hs_u1_self]; omega, by show 0 ≤ ((cm_u1 wT 119 n xT).1 119 n).toInt; rw [hs_u1_self]; omega, by show ((cm_u1 wT 119 n xT).1 119 n).toInt ≤ 3; rw [hs_u1_self]; omega⟩⟩
theorem jac_ok {w : cm_W} {n : Nat} (hn : (w.1 116 2).toInt = ((n : Int) : Int)) (hn40 : n < 40) (hG : sv_w sg w) : ∃ x w', cm_C 5 170 [.inr (.inr (some 116))] w (some (.inl x), w') ∧ sv_w sg w' ∧ jBg n w w' ∧ 0 ≤ x.toInt ∧ x.toInt ≤ 1 ∧ (x.toInt = 1 → jBw w' n) := by
  have h : ∃ o, cm_C (4 + 1) 170 [.inr (.inr (some 116))] w o ∧ (fun o : cm_O => ∃ x w', o = (some (.inl x), w') ∧ sv_w sg w' ∧ jBg n w w' ∧ 0 ≤ x.toInt ∧ x.toInt ≤ 1 ∧ (x.toInt = 1 → jBw w' n)) o := by
    refine wk_entry (by rw [xm_b8c623ed]; exact Nat.le_of_ble_eq_true rfl) ?_
    rw [show cm_ent 170 [.inr (.inr (some 116))] = [some (.inr (.inr (some 116))), none] from by unfold cm_ent; rw [xm_b8c623ed]; rfl]
    refine wk_aload_n xd_ea2ea90c rfl ?_
    refine wk_getR xf_55fe57a6 xd_603608ef ?_
    refine wk_getI xf_a1a4aaa1 xd_a62dccd9 ?_
    refine wk_istore_n xd_a5557413 (by rw [xm_b8c623ed]; rfl) rfl ?_
    refine wk_iload_n xd_8df410f7 rfl ?_
    refine wk_bipush xd_c2aae3f7 ?_
    refine wk_icmp xd_d1e72956 (t := 35) rfl (fun h11_11 => ?_) (fun h11_11 => ?_)
    · have h11_11 := aw_eq_t (a := ((w.1 2 8).toInt : Int)) (b := (6 : Int)) rfl (show (((Int8.ofInt 6).toInt32)).toInt = 6 from by decide) h11_11
      exact jac_35 (w.1 2 8) hn hn40 (by omega) hG
    · have h11_11 := aw_eq_f (a := ((w.1 2 8).toInt : Int)) (b := (6 : Int)) rfl (show (((Int8.ofInt 6).toInt32)).toInt = 6 from by decide) h11_11
      refine wk_iload_n xd_e60be487 rfl ?_
      refine wk_bipush xd_6b6f4e17 ?_
      refine wk_icmp xd_973fb8b7 (t := 35) rfl (fun h17_12 => ?_) (fun h17_12 => ?_)
      · have h17_12 := aw_eq_t (a := ((w.1 2 8).toInt : Int)) (b := (7 : Int)) rfl (show (((Int8.ofInt 7).toInt32)).toInt = 7 from by decide) h17_12
        exact jac_35 (w.1 2 8) hn hn40 (by omega) hG
      · have h17_12 := aw_eq_f (a := ((w.1 2 8).toInt : Int)) (b := (7 : Int)) rfl (show (((Int8.ofInt 7).toInt32)).toInt = 7 from by decide) h17_12
        refine wk_iload_n xd_be49ec3c rfl ?_
        refine wk_bipush xd_c37b73fb ?_
        refine wk_icmp xd_7e503f0e (t := 35) rfl (fun h23_13 => ?_) (fun h23_13 => ?_)
        · have h23_13 := aw_eq_t (a := ((w.1 2 8).toInt : Int)) (b := (8 : Int)) rfl (show (((Int8.ofInt 8).toInt32)).toInt = 8 from by decide) h23_13
          exact jac_35 (w.1 2 8) hn hn40 (by omega) hG
        · have h23_13 := aw_eq_f (a := ((w.1 2 8).toInt : Int)) (b := (8 : Int)) rfl (show (((Int8.ofInt 8).toInt32)).toInt = 8 from by decide) h23_13
          refine wk_aload_n xd_34e0649b rfl ?_
          refine wk_getR xf_55fe57a6 xd_bbe374f1 ?_
          refine wk_iconst xd_a26ec0a4 ?_
          obtain ⟨xr, wr, hCr, hGr, hFr, hr0, hr1⟩ := jrf_ok (w := w) (a := (Int32.ofInt 1)) (by decide) hG
          refine wk_call (kd := 0) (i := 68) xd_814c675c rfl (wk_cal (as := [.inr (.inr (some 2)), .inl (Int32.ofInt 1)]) (t := []) xl_f9664506 rfl xn_b5464d7d xc_49a83f99 rfl rfl xv_780065b9 rfl) (cm_C_mono (by omega) hCr) ?_
          have hf15_ : jBg n w wr := fun k i x1 x2 => (hFr k i (by omega)).trans (jBg_rf k i x1 x2)
          exact wk_ireturn xd_1d8d1253 xr_abdb0b41 (aw_bit (by omega) (by omega)) ⟨_, _, rfl, hGr, hf15_, by omega, by omega, fun h => absurd h (by omega)⟩
  obtain ⟨o, hC, x, w', rfl, a⟩ := h
  exact ⟨x, w', hC, a⟩
theorem jrl_54 {w : cm_W} {n : Nat} (q p2 p3 : Int32) (hn : (w.1 116 2).toInt = ((n : Int) : Int)) (hq : p2.toInt ≠ 0 ∨ q.toInt = 9 ∨ q.toInt = 10) (hp3 : 0 ≤ p3.toInt ∧ p3.toInt ≤ 5) (hG : sv_w sg w) : cm_X (cm_C 5) 171 54 [some (.inr (.inr (some 116))), some (.inl q), some (.inl p2), some (.inl p3)] [] w (fun o : cm_O => ∃ x w', o = (some (.inl x), w') ∧ sv_w sg w' ∧ jBg n w w' ∧ 0 ≤ x.toInt ∧ x.toInt ≤ 1 ∧ (x.toInt = 1 → n < 40 ∧ jBw w' n)) := by
  have hF0 : jBg n w w := jBg_rf
  refine wk_aload_n xd_86e29b44 rfl ?_
  refine wk_getI xf_2d2091e5 xd_020435b6 ?_
  refine wk_bipush xd_50d21b06 ?_
  refine wk_icmp xd_3e79e76d (t := 72) rfl (fun h60_0 => ?_) (fun h60_0 => ?_)
  · have h60_0 := aw_lt_t (a := ((n : Int) : Int)) (b := (40 : Int)) (show ((w.1 116 2)).toInt = ((n : Int) : Int) from hn) (show (((Int8.ofInt 40).toInt32)).toInt = 40 from by decide) h60_0
    have hn40 : n < 40 := by omega
    refine wk_aload_n xd_b2132531 rfl ?_
    refine wk_getR xf_f075c7a8 xd_eed0d767 ?_
    obtain ⟨wN, hCN, hGN, hFN, hxN⟩ := xs_61_078b38e8 (w := w) hG
    refine wk_call (kd := 0) (i := 71) xd_ed3f8dc2 rfl (wk_cal (as := [.inr (.inr (some 2))]) (t := []) xl_9fd47991 rfl xn_568f4fa7 xc_1d38a579 rfl rfl xv_65cfb41b rfl) (cm_C_mono (by omega) hCN) ?_
    have hf2_ : jBg n w wN := fun k i x1 x2 => ((hFN k i (by omega)).1).trans (hF0 k i x1 x2)
    have hnN : (wN.1 116 2).toInt = ((n : Int) : Int) := by rw [(hFN 116 2 (by omega)).1]; exact hn
    refine wk_aload_n xd_c44f5f2a rfl ?_
    refine wk_getR xf_fabc28a9 xd_267fbf15 ?_
    refine wk_aload_n xd_ca75c42c rfl ?_
    refine wk_getI xf_2d2091e5 xd_3f2fb84d ?_
    refine wk_iload_n xd_d78acc02 rfl ?_
    refine aw_iastore (i := n) xf_9a93de23 (show ((wN.1 116 2)).toInt = ((n : Int) : Int) from hnN) (by omega) (by omega) xd_a80bf751 ?_
    have hf3_ : jBg n w (cm_u1 wN 118 n p3) := fun k i x1 x2 => (hs_u1_ne (by omega)).trans (hf2_ k i x1 x2)
    have hG4_ : sv_w sg (cm_u1 wN 118 n p3) := sv_w_u1 hGN (by rw [xh_9d6ca2bf n (by omega)]; exact hb_mk (by rw [show (p3).toInt = (p3).toInt from rfl]; omega) (by rw [show (p3).toInt = (p3).toInt from rfl]; omega))
    refine wk_iload_n xd_0799d4ee rfl ?_
    refine wk_if xd_960c9492 (t := 98) rfl (fun h90_4 => ?_) (fun h90_4 => ?_)
    · have h90_4 := aw_eq_t (a := ((p2).toInt : Int)) (b := (0 : Int)) rfl hb_z h90_4
      refine wk_aload_n xd_3d0cdb10 rfl ?_
      refine wk_getR xf_55e469a7 xd_bd62bcfb ?_
      refine wk_aload_n xd_0757d833 rfl ?_
      refine wk_getI xf_2d2091e5 xd_8daf4b18 ?_
      refine wk_iload_n xd_6068837d rfl ?_
      refine aw_iastore (i := n) xf_cc076ad5 (show (((cm_u1 wN 118 n p3).1 116 2)).toInt = ((n : Int) : Int) from hnN) (by omega) (by omega) xd_6e8c59b6 ?_
      have hf6_ : jBg n w (cm_u1 (cm_u1 wN 118 n p3) 117 n q) := fun k i x1 x2 => (hs_u1_ne (by omega)).trans (hf3_ k i x1 x2)
      have hG7_ : sv_w sg (cm_u1 (cm_u1 wN 118 n p3) 117 n q) := sv_w_u1 hG4_ (by rw [aw_tv2 xf_bcf02dc0]; exact sv_in_top _)
      refine wk_aload_n xd_ea7848fc rfl ?_
      refine wk_getR xf_f256800b xd_2bbf77e0 ?_
      refine wk_aload_n xd_8672bd14 rfl ?_
      refine wk_getI xf_2d2091e5 xd_6ab2ed8f ?_
      refine wk_iload_n xd_e14de65a rfl ?_
      refine wk_bipush xd_ff993472 ?_
      refine wk_icmp xd_06d911f1 (t := 137) rfl (fun h119_7 => ?_) (fun h119_7 => ?_)
      · have h119_7 := aw_ne_t (a := ((q).toInt : Int)) (b := (9 : Int)) rfl (show (((Int8.ofInt 9).toInt32)).toInt = 9 from by decide) h119_7
        skip
        refine wk_aload_n xd_c4663a5c rfl ?_
        refine wk_getR xf_f075c7a8 xd_f45b461c ?_
        refine wk_iconst xd_c669314e ?_
        refine wk_bipush xd_f54c8590 ?_
        obtain ⟨xT, wT, hCT, hGT, hFT, hxT⟩ := jtv_ok (w := (cm_u1 (cm_u1 wN 118 n p3) 117 n q)) (a := (Int32.ofInt 1)) (b := ((Int8.ofInt 60).toInt32)) hG7_
        rw [(show ((Int32.ofInt 1)).toInt = 1 from by decide), (show (((Int8.ofInt 60).toInt32)).toInt = 60 from by decide)] at hxT
        refine wk_call (kd := 0) (i := 80) xd_db1b283c rfl (wk_cal (as := [.inr (.inr (some 2)), .inl (Int32.ofInt 1), .inl ((Int8.ofInt 60).toInt32)]) (t := [.inl ((cm_u1 (cm_u1 wN 118 n p3) 117 n q).1 116 2), .inr (.inr (some 119))]) xl_7d15b5a1 rfl xn_4f3a315b xc_18628866 rfl rfl xv_017ac5ff rfl) (cm_C_mono (by omega) hCT) ?_
        have hnT : (wT.1 116 2).toInt = ((n : Int) : Int) := by rw [hFT 116 2 (by omega)]; exact hnN
        have hf9_ : jBg n w wT := fun k i x1 x2 => (hFT k i (by omega)).trans (hf6_ k i x1 x2)
        refine aw_iastore (i := n) xf_079c3f55 (show (((cm_u1 (cm_u1 wN 118 n p3) 117 n q).1 116 2)).toInt = ((n : Int) : Int) from hnN) (by omega) (by omega) xd_322dcab6 ?_
        have hf10_ : jBg n w (cm_u1 wT 119 n xT) := fun k i x1 x2 => (hs_u1_ne (by omega)).trans (hf9_ k i x1 x2)
        have hG11_ : sv_w sg (cm_u1 wT 119 n xT) := sv_w_u1 hGT (by rw [aw_tv2 xf_86fa4cb0]; exact sv_in_top _)
        refine wk_aload_n xd_837ed6a3 rfl ?_
        refine wk_getR xf_f256800b xd_012be13e ?_
        refine wk_aload_n xd_ef74234b rfl ?_
        refine wk_getI xf_2d2091e5 xd_40267b51 ?_
        refine aw_iaload (i := n) xf_079c3f55 (show (((cm_u1 wT 119 n xT).1 116 2)).toInt = ((n : Int) : Int) from hnT) (by omega) (by omega) xd_ba2a208f ?_
        refine wk_iconst xd_2d5568a4 ?_
        refine wk_icmp xd_03c2a110 (t := 165) rfl (fun h158_11 => ?_) (fun h158_11 => ?_)
        · have h158_11 := aw_eq_t (a := (((cm_u1 wT 119 n xT).1 119 n).toInt : Int)) (b := ((-1) : Int)) rfl (show ((Int32.ofInt (-1))).toInt = (-1) from by decide) h158_11
          refine wk_iconst xd_4a3e5817 ?_
          exact wk_ireturn xd_249a7329 xr_2c7dc002 wk_z0 ⟨_, _, rfl, hG11_, hf10_, by decide, by decide, fun h => absurd h (by decide)⟩
        · have h158_11 := aw_eq_f (a := (((cm_u1 wT 119 n xT).1 119 n).toInt : Int)) (b := ((-1) : Int)) rfl (show ((Int32.ofInt (-1))).toInt = (-1) from by decide) h158_11
          refine wk_iconst xd_2bffe2a7 ?_
          refine wk_goto xd_38adfc0a (t := 166) rfl ?_
          have he : (cm_u1 wT 119 n xT).1 119 n = xT := hs_u1_self
          have hxT1 : xT.toInt ≠ -1 := fun h => by
            rw [← he] at h
            omega
          exact wk_ireturn xd_249a7329 xr_2c7dc002 wk_z1 ⟨_, _, rfl, hG11_, hf10_, by decide, by decide, fun _ => ⟨hn40, .inr (.inr (.inr (.inr ⟨by show ((cm_u1 wT 119 n xT).1 117 n).toInt = 10; rw [hs_u1_ne (by omega), hFT 117 n (by omega), hs_u1_self]; omega, by show 1 ≤ ((cm_u1 wT 119 n xT).1 119 n).toInt; rw [hs_u1_self]; omega, by show ((cm_u1 wT 119 n xT).1 119 n).toInt ≤ 60; rw [hs_u1_self]; omega⟩)))⟩⟩
      · have h119_7 := aw_ne_f (a := ((q).toInt : Int)) (b := (9 : Int)) rfl (show (((Int8.ofInt 9).toInt32)).toInt = 9 from by decide) h119_7
        skip
        refine wk_aload_n xd_de6c143c rfl ?_
        refine wk_getR xf_f075c7a8 xd_0aa0c56f ?_
        refine wk_aload_n xd_de30b5af rfl ?_
        refine wk_getR xf_1b1a3ce4 xd_34ed6295 ?_
        refine wk_iconst xd_e058b7f0 ?_
        obtain ⟨xT, wT, hCT, hGT, hFT, hxT⟩ := xs_188_f939e912 (w := (cm_u1 (cm_u1 wN 118 n p3) 117 n q)) (a2 := (Int32.ofInt 2)) (by have e9 : ((Int32.ofInt 2)).toInt = (2 : Int) := (show ((Int32.ofInt 2)).toInt = 2 from by decide); exact ⟨by omega, by omega⟩) hG7_
        refine wk_call (kd := 0) (i := 77) xd_7d39b3e6 rfl (wk_cal (as := [.inr (.inr (some 2)), .inr (.inr (some 4)), .inl (Int32.ofInt 2)]) (t := [.inl ((cm_u1 (cm_u1 wN 118 n p3) 117 n q).1 116 2), .inr (.inr (some 119))]) xl_8633db12 rfl xn_725a18eb xc_be714b02 rfl rfl xv_0f9d2d2e rfl) (cm_C_mono (by omega) hCT) ?_
        have hf13_ : jBg n w wT := fun k i x1 x2 => ((hFT k i (by omega)).1).trans (hf6_ k i x1 x2)
        have hnT : (wT.1 116 2).toInt = ((n : Int) : Int) := by rw [(hFT 116 2 (by omega)).1]; exact hnN
        refine wk_goto xd_9b0f08af (t := 147) rfl ?_
        refine aw_iastore (i := n) xf_079c3f55 (show (((cm_u1 (cm_u1 wN 118 n p3) 117 n q).1 116 2)).toInt = ((n : Int) : Int) from hnN) (by omega) (by omega) xd_322dcab6 ?_
        have hf14_ : jBg n w (cm_u1 wT 119 n xT) := fun k i x1 x2 => (hs_u1_ne (by omega)).trans (hf13_ k i x1 x2)
        have hG15_ : sv_w sg (cm_u1 wT 119 n xT) := sv_w_u1 hGT (by rw [aw_tv2 xf_86fa4cb0]; exact sv_in_top _)
        refine wk_aload_n xd_837ed6a3 rfl ?_
        refine wk_getR xf_f256800b xd_012be13e ?_
        refine wk_aload_n xd_ef74234b rfl ?_
        refine wk_getI xf_2d2091e5 xd_40267b51 ?_
        refine aw_iaload (i := n) xf_079c3f55 (show (((cm_u1 wT 119 n xT).1 116 2)).toInt = ((n : Int) : Int) from hnT) (by omega) (by omega) xd_ba2a208f ?_
        refine wk_iconst xd_2d5568a4 ?_
        refine wk_icmp xd_03c2a110 (t := 165) rfl (fun h158_15 => ?_) (fun h158_15 => ?_)
        · have h158_15 := aw_eq_t (a := (((cm_u1 wT 119 n xT).1 119 n).toInt : Int)) (b := ((-1) : Int)) rfl (show ((Int32.ofInt (-1))).toInt = (-1) from by decide) h158_15
          refine wk_iconst xd_4a3e5817 ?_
          exact wk_ireturn xd_249a7329 xr_2c7dc002 wk_z0 ⟨_, _, rfl, hG15_, hf14_, by decide, by decide, fun h => absurd h (by decide)⟩
        · have h158_15 := aw_eq_f (a := (((cm_u1 wT 119 n xT).1 119 n).toInt : Int)) (b := ((-1) : Int)) rfl (show ((Int32.ofInt (-1))).toInt = (-1) from by decide) h158_15
          refine wk_iconst xd_2bffe2a7 ?_
          refine wk_goto xd_38adfc0a (t := 166) rfl ?_
          have he : (cm_u1 wT 119 n xT).1 119 n = xT := hs_u1_self
          have hxT1 : xT.toInt ≠ -1 := fun h => by
            rw [← he] at h
            omega
          exact wk_ireturn xd_249a7329 xr_2c7dc002 wk_z1 ⟨_, _, rfl, hG15_, hf14_, by decide, by decide, fun _ => ⟨hn40, .inr (.inr (.inr (.inl ⟨by show ((cm_u1 wT 119 n xT).1 117 n).toInt = 9; rw [hs_u1_ne (by omega), (hFT 117 n (by omega)).1, hs_u1_self]; omega, by show 0 ≤ ((cm_u1 wT 119 n xT).1 119 n).toInt; rw [hs_u1_self]; omega, by show ((cm_u1 wT 119 n xT).1 119 n).toInt ≤ 5; rw [hs_u1_self]; omega⟩)))⟩⟩
    · have h90_4 := aw_eq_f (a := ((p2).toInt : Int)) (b := (0 : Int)) rfl hb_z h90_4
      refine wk_aload_n xd_4b50a10b rfl ?_
      obtain ⟨xA, wA, hCA, hGA, hFA, hA0, hA1, hA2⟩ := jac_ok (w := (cm_u1 wN 118 n p3)) (n := n) hnN hn40 hG4_
      refine wk_call (kd := 0) (i := 74) xd_0c71f0cc rfl (wk_cal (as := [.inr (.inr (some 116))]) (t := []) xl_bb4a93da rfl xn_5d7280d3 xc_9cfbfaf9 rfl rfl xv_cef308a9 rfl) (cm_C_mono (by omega) hCA) ?_
      have hf17_ : jBg n w wA := fun k i x1 x2 => (hFA k i x1 x2).trans (hf3_ k i x1 x2)
      exact wk_ireturn xd_540bef3e xr_2c7dc002 (aw_bit (by omega) (by omega)) ⟨_, _, rfl, hGA, hf17_, by omega, by omega, fun h => ⟨hn40, hA2 h⟩⟩
  · have h60_0 := aw_lt_f (a := ((n : Int) : Int)) (b := (40 : Int)) (show ((w.1 116 2)).toInt = ((n : Int) : Int) from hn) (show (((Int8.ofInt 40).toInt32)).toInt = 40 from by decide) h60_0
    refine wk_aload_n xd_a845aac2 rfl ?_
    refine wk_getR xf_f075c7a8 xd_c79d8d58 ?_
    refine wk_iconst xd_73659c44 ?_
    obtain ⟨xr, wr, hCr, hGr, hFr, hr0, hr1⟩ := jrf_ok (w := w) (a := (Int32.ofInt 4)) (by decide) hG
    refine wk_call (kd := 0) (i := 68) xd_94a080f6 rfl (wk_cal (as := [.inr (.inr (some 2)), .inl (Int32.ofInt 4)]) (t := []) xl_08bc40ac rfl xn_b5464d7d xc_49a83f99 rfl rfl xv_780065b9 rfl) (cm_C_mono (by omega) hCr) ?_
    have hf18_ : jBg n w wr := fun k i x1 x2 => (hFr k i (by omega)).trans (hF0 k i x1 x2)
    exact wk_ireturn xd_69849678 xr_2c7dc002 (aw_bit (by omega) (by omega)) ⟨_, _, rfl, hGr, hf18_, by omega, by omega, fun h => absurd h (by omega)⟩
theorem jrl_ok {w : cm_W} {n : Nat} (hn : (w.1 116 2).toInt = ((n : Int) : Int)) (hG : sv_w sg w) : ∃ x w', cm_C 6 171 [.inr (.inr (some 116))] w (some (.inl x), w') ∧ sv_w sg w' ∧ jBg n w w' ∧ 0 ≤ x.toInt ∧ x.toInt ≤ 1 ∧ (x.toInt = 1 → n < 40 ∧ jBw w' n) := by
  have h : ∃ o, cm_C (5 + 1) 171 [.inr (.inr (some 116))] w o ∧ (fun o : cm_O => ∃ x w', o = (some (.inl x), w') ∧ sv_w sg w' ∧ jBg n w w' ∧ 0 ≤ x.toInt ∧ x.toInt ≤ 1 ∧ (x.toInt = 1 → n < 40 ∧ jBw w' n)) o := by
    refine wk_entry (by rw [xm_6cc5af68]; exact Nat.le_of_ble_eq_true rfl) ?_
    rw [show cm_ent 171 [.inr (.inr (some 116))] = [some (.inr (.inr (some 116))), none, none, none] from by unfold cm_ent; rw [xm_6cc5af68]; rfl]
    refine wk_aload_n xd_0d330f9b rfl ?_
    refine wk_getR xf_f075c7a8 xd_6183f5f2 ?_
    refine wk_getI xf_260261e2 xd_a79831c4 ?_
    refine wk_istore_n xd_cbd96f52 (by rw [xm_6cc5af68]; rfl) rfl ?_
    refine wk_iload_n xd_6ae9b660 rfl ?_
    refine wk_bipush xd_e571e428 ?_
    refine wk_icmp xd_14898242 (t := 24) rfl (fun h11_0 => ?_) (fun h11_0 => ?_)
    · have h11_0 := aw_eq_t (a := ((w.1 2 8).toInt : Int)) (b := (9 : Int)) rfl (show (((Int8.ofInt 9).toInt32)).toInt = 9 from by decide) h11_0
      refine wk_iconst xd_bfc13657 ?_
      refine wk_istore_n xd_e4f3a5ab (by rw [xm_6cc5af68]; rfl) rfl ?_
      refine wk_iload_n xd_7aafffd7 rfl ?_
      refine wk_if xd_05771894 (t := 45) rfl (fun _ => ?_) (fun h => absurd (aw_eq_f (show ((Int32.ofInt 0)).toInt = 0 from by decide) hb_z h) (by omega))
      refine wk_iconst xd_452320ed ?_
      refine wk_istore_n xd_ea564995 (by rw [xm_6cc5af68]; rfl) rfl ?_
      refine wk_iload_n xd_6c816ee3 rfl ?_
      refine wk_iconst xd_01ea836d ?_
      refine wk_icmp xd_e4c2a6fe (t := 54) rfl (fun _ => ?_) (fun h => absurd (aw_ne_f (show ((Int32.ofInt 0)).toInt = 0 from by decide) (show ((Int32.ofInt (-1))).toInt = (-1) from by decide) h) (by omega))
      exact jrl_54 (w.1 2 8) (Int32.ofInt 0) (Int32.ofInt 0) hn (by have e9 : ((Int32.ofInt 0)).toInt = (0 : Int) := (show ((Int32.ofInt 0)).toInt = 0 from by decide); omega) (by have e9 : ((Int32.ofInt 0)).toInt = (0 : Int) := (show ((Int32.ofInt 0)).toInt = 0 from by decide); exact ⟨by omega, by omega⟩) hG
    · have h11_0 := aw_eq_f (a := ((w.1 2 8).toInt : Int)) (b := (9 : Int)) rfl (show (((Int8.ofInt 9).toInt32)).toInt = 9 from by decide) h11_0
      refine wk_iload_n xd_8887ffc6 rfl ?_
      refine wk_bipush xd_f28f1c8b ?_
      refine wk_icmp xd_2940d331 (t := 24) rfl (fun h17_3 => ?_) (fun h17_3 => ?_)
      · have h17_3 := aw_eq_t (a := ((w.1 2 8).toInt : Int)) (b := (10 : Int)) rfl (show (((Int8.ofInt 10).toInt32)).toInt = 10 from by decide) h17_3
        refine wk_iconst xd_bfc13657 ?_
        refine wk_istore_n xd_e4f3a5ab (by rw [xm_6cc5af68]; rfl) rfl ?_
        refine wk_iload_n xd_7aafffd7 rfl ?_
        refine wk_if xd_05771894 (t := 45) rfl (fun _ => ?_) (fun h => absurd (aw_eq_f (show ((Int32.ofInt 0)).toInt = 0 from by decide) hb_z h) (by omega))
        refine wk_iconst xd_452320ed ?_
        refine wk_istore_n xd_ea564995 (by rw [xm_6cc5af68]; rfl) rfl ?_
        refine wk_iload_n xd_6c816ee3 rfl ?_
        refine wk_iconst xd_01ea836d ?_
        refine wk_icmp xd_e4c2a6fe (t := 54) rfl (fun _ => ?_) (fun h => absurd (aw_ne_f (show ((Int32.ofInt 0)).toInt = 0 from by decide) (show ((Int32.ofInt (-1))).toInt = (-1) from by decide) h) (by omega))
        exact jrl_54 (w.1 2 8) (Int32.ofInt 0) (Int32.ofInt 0) hn (by have e9 : ((Int32.ofInt 0)).toInt = (0 : Int) := (show ((Int32.ofInt 0)).toInt = 0 from by decide); omega) (by have e9 : ((Int32.ofInt 0)).toInt = (0 : Int) := (show ((Int32.ofInt 0)).toInt = 0 from by decide); exact ⟨by omega, by omega⟩) hG
      · have h17_3 := aw_eq_f (a := ((w.1 2 8).toInt : Int)) (b := (10 : Int)) rfl (show (((Int8.ofInt 10).toInt32)).toInt = 10 from by decide) h17_3
        refine wk_iconst xd_de008ce7 ?_
        refine wk_goto xd_57e79916 (t := 25) rfl ?_
        refine wk_istore_n xd_e4f3a5ab (by rw [xm_6cc5af68]; rfl) rfl ?_
        refine wk_iload_n xd_7aafffd7 rfl ?_
        refine wk_if xd_05771894 (t := 45) rfl (fun h => absurd (aw_eq_t (show ((Int32.ofInt 1)).toInt = 1 from by decide) hb_z h) (by omega)) (fun _ => ?_)
        refine wk_aload_n xd_36836887 rfl ?_
        refine wk_getR xf_f075c7a8 xd_542267e4 ?_
        refine wk_aload_n xd_36dfc914 rfl ?_
        refine wk_getR xf_1b1a3ce4 xd_6a6fc01e ?_
        refine wk_iconst xd_c1506983 ?_
        obtain ⟨xL, wL, hCL, hGL, hFL, hxL⟩ := xs_186_2ede1899 (w := w) (a2 := (Int32.ofInt 0)) (by have e9 : ((Int32.ofInt 0)).toInt = (0 : Int) := (show ((Int32.ofInt 0)).toInt = 0 from by decide); exact ⟨by omega, by omega⟩) hG
        refine wk_call (kd := 0) (i := 64) xd_5848c56a rfl (wk_cal (as := [.inr (.inr (some 2)), .inr (.inr (some 4)), .inl (Int32.ofInt 0)]) (t := []) xl_9ece86b4 rfl xn_cd6aa68a xc_ec32c43f rfl rfl xv_5ef21940 rfl) (cm_C_mono (by omega) hCL) ?_
        have hf8_ : jBg n w wL := fun k i x1 x2 => ((hFL k i (by omega)).1).trans (jBg_rf k i x1 x2)
        refine wk_goto xd_0e73d11a (t := 46) rfl ?_
        refine wk_istore_n xd_ea564995 (by rw [xm_6cc5af68]; rfl) rfl ?_
        refine wk_iload_n xd_6c816ee3 rfl ?_
        refine wk_iconst xd_01ea836d ?_
        refine wk_icmp xd_e4c2a6fe (t := 54) rfl (fun h49_8 => ?_) (fun h49_8 => ?_)
        · have h49_8 := aw_ne_t (a := ((xL).toInt : Int)) (b := ((-1) : Int)) rfl (show ((Int32.ofInt (-1))).toInt = (-1) from by decide) h49_8
          refine cm_X_imp (jrl_54 (w.1 2 8) (Int32.ofInt 1) xL (by rw [(hFL 116 2 (by omega)).1]; exact hn) (by have e9 : ((Int32.ofInt 1)).toInt = (1 : Int) := (show ((Int32.ofInt 1)).toInt = 1 from by decide); omega) (by have e9 : (xL).toInt = ((xL).toInt : Int) := rfl; exact ⟨by omega, by omega⟩) hGL) (fun o h => ?_)
          obtain ⟨x, w', rfl, a1, a2, a3⟩ := h
          exact ⟨x, w', rfl, a1, fun k i x1 x2 => (a2 k i x1 x2).trans (hFL k i (by omega)).1, a3⟩
        · have h49_8 := aw_ne_f (a := ((xL).toInt : Int)) (b := ((-1) : Int)) rfl (show ((Int32.ofInt (-1))).toInt = (-1) from by decide) h49_8
          refine wk_iconst xd_bb89f479 ?_
          exact wk_ireturn xd_a3105e85 xr_2c7dc002 wk_z0 ⟨_, _, rfl, hGL, hf8_, by decide, by decide, fun h => absurd h (by decide)⟩
  obtain ⟨o, hC, x, w', rfl, a⟩ := h
  exact ⟨x, w', hC, a⟩
def jBh (w0 w : cm_W) : Prop := ∀ k i, k ≠ 2 → ¬ (116 ≤ k ∧ k ≤ 119) → w.1 k i = w0.1 k i
theorem jBh_rf {a : cm_W} : jBh a a := fun _ _ _ _ => rfl
theorem jrb_l (w1 : cm_W) (Q : cm_O → Prop) (hk1 : ∀ w, jBh w1 w → sv_w sg w → Q (some (.inl (Int32.ofInt 0)), w)) (hk : ∀ x w n, jBh w1 w → sv_w sg w → n ≤ 40 → (w.1 116 2).toInt = ((n : Nat) : Int) → (∀ j, j < n → jBw w j) → 0 ≤ x.toInt → x.toInt ≤ 1 → Q (some (.inl x), w)) : ∀ (n i : Nat) (z : Int32) (w : cm_W), n + i = 41 → z.toInt = (i : Int) → (w.1 116 2).toInt = ((i : Int) : Int) → (∀ j, j < i → jBw w j) → jBh w1 w → sv_w sg w → cm_X (cm_C 6) 50 7 [some (.inr (.inr (some 116))), some (.inl z)] [] w Q := by
  intro n
  induction n with
  | zero =>
    intro i z w hi hz hn hrows hF hG
    refine wk_iload_n xd_2b8ffb9a rfl ?_
    refine wk_bipush xd_ec39b838 ?_
    refine wk_icmp xd_b8ae0f0a (t := 68) rfl (fun h10_0 => ?_) (fun h10_0 => ?_)
    · have h10_0 := aw_gt_t (a := ((i : Int) : Int)) (b := (40 : Int)) hz (show (((Int8.ofInt 40).toInt32)).toInt = 40 from by decide) h10_0
      refine wk_iconst xd_6d19b4b6 ?_
      exact wk_ireturn xd_e5f37925 xr_00814a6a wk_z0 (hk1 _ hF hG)
    · have h10_0 := aw_gt_f (a := ((i : Int) : Int)) (b := (40 : Int)) hz (show (((Int8.ofInt 40).toInt32)).toInt = 40 from by decide) h10_0
      exfalso
      omega
  | succ n ih =>
    intro i z w hi hz hn hrows hF hG
    refine wk_iload_n xd_2b8ffb9a rfl ?_
    refine wk_bipush xd_ec39b838 ?_
    refine wk_icmp xd_b8ae0f0a (t := 68) rfl (fun h10_1 => ?_) (fun h10_1 => ?_)
    · have h10_1 := aw_gt_t (a := ((i : Int) : Int)) (b := (40 : Int)) hz (show (((Int8.ofInt 40).toInt32)).toInt = 40 from by decide) h10_1
      exfalso
      omega
    · have h10_1 := aw_gt_f (a := ((i : Int) : Int)) (b := (40 : Int)) hz (show (((Int8.ofInt 40).toInt32)).toInt = 40 from by decide) h10_1
      refine wk_aload_n xd_2761eb33 rfl ?_
      refine wk_getR xf_0c298976 xd_cbe1a386 ?_
      refine wk_getI xf_82cfb342 xd_de690cdd ?_
      refine wk_if xd_6772871e (t := 31) rfl (fun h20_2 => ?_) (fun h20_2 => ?_)
      · have h20_2 := aw_ne_t (a := ((w.1 2 5).toInt : Int)) (b := (0 : Int)) rfl hb_z h20_2
        refine wk_aload_n xd_13ccf4d5 rfl ?_
        obtain ⟨xL, wL, hCL, hGL, hFL, hL0, hL1, hL2⟩ := jrl_ok (w := w) (n := i) hn hG
        refine wk_call (kd := 0) (i := 54) xd_0dcad1e7 rfl (wk_cal (as := [.inr (.inr (some 116))]) (t := []) xl_2935d42a rfl xn_6012a963 xc_3ae8399d rfl rfl xv_f801985a rfl) (cm_C_mono (by omega) hCL) ?_
        have hfL : jBh w1 wL := fun k i x1 x2 => (hFL k i x1 (by omega)).trans (hF k i x1 x2)
        refine wk_if xd_e62e0dcb (t := 50) rfl (fun h35_3 => ?_) (fun h35_3 => ?_)
        · have h35_3 := aw_eq_t (a := ((xL).toInt : Int)) (b := (0 : Int)) rfl hb_z h35_3
          refine wk_iconst xd_a2bfab8b ?_
          exact wk_ireturn xd_f979dd13 xr_00814a6a wk_z0 (hk1 _ hfL hGL)
        · have h35_3 := aw_eq_f (a := ((xL).toInt : Int)) (b := (0 : Int)) rfl hb_z h35_3
          refine wk_aload_n xd_88065d27 rfl ?_
          refine wk_getR xf_0c298976 xd_ac96a1ab ?_
          refine wk_bipush xd_44a829bc ?_
          obtain ⟨xS, wS, hCS, hGS, hFS, hxS⟩ := xs_190_4ced0f8d (w := wL) (a1 := ((Int8.ofInt 59).toInt32)) (by have e9 : (((Int8.ofInt 59).toInt32)).toInt = (59 : Int) := (show (((Int8.ofInt 59).toInt32)).toInt = 59 from by decide); exact ⟨by omega, by omega⟩) hGL
          refine wk_call (kd := 0) (i := 57) xd_eb9f7b30 rfl (wk_cal (as := [.inr (.inr (some 2)), .inl ((Int8.ofInt 59).toInt32)]) (t := []) xl_8479a485 rfl xn_fe71b019 xc_c4c1f567 rfl rfl xv_89786e0c rfl) (cm_C_mono (by omega) hCS) ?_
          have hf5_ : jBh w1 wS := fun k i x1 x2 => ((hFS k i (by omega)).1).trans (hfL k i x1 x2)
          have hnS : (wS.1 116 2).toInt = ((i : Int) : Int) := by rw [(hFS 116 2 (by omega)).1, hFL 116 2 (by omega) (by omega)]; exact hn
          refine wk_if xd_0659ec7b (t := 52) rfl (fun h47_5 => ?_) (fun h47_5 => ?_)
          · have h47_5 := aw_ne_t (a := ((xS).toInt : Int)) (b := (0 : Int)) rfl hb_z h47_5
            have hi40 := (hL2 (by omega)).1
            refine wk_aload_n xd_d5149fb8 rfl ?_
            refine wk_dup_r xd_e0dc8175 ?_
            refine wk_getI xf_7558e797 xd_7330f040 ?_
            refine wk_iconst xd_fa06bc7b ?_
            refine aw_iadd (a := ((i : Int) : Int)) (b := (1 : Int)) (e := ((i : Int) + 1 : Int)) xd_60914d12 (show ((wS.1 116 2)).toInt = ((i : Int) : Int) from hnS) (show ((Int32.ofInt 1)).toInt = 1 from by decide) (by omega) (by omega) (by omega) (fun v7_ p7_ => ?_)
            refine wk_putI xf_0293f975 (fun ci => wk_fitI ci) xd_b8dc153b ?_
            have hf8_ : jBh w1 (cm_u1 wS 116 2 v7_) := fun k i x1 x2 => (hs_u1_ne (by omega)).trans (hf5_ k i x1 x2)
            have hG9_ : sv_w sg (cm_u1 wS 116 2 v7_) := sv_w_u1 hGS (by rw [xg_4b821ff3]; exact hb_mk (by rw [p7_]; omega) (by rw [p7_]; omega))
            refine aw_iinc (a := ((i : Int) : Int)) (b := (1 : Int)) (e := ((i : Int) + 1 : Int)) xd_c4e46a12 (by rw [xm_156f76cd]; rfl) rfl rfl hz (show ((Int32.ofInt 1)).toInt = 1 from by decide) (by omega) (by omega) (by omega) (fun v10_ p10_ => ?_)
            refine wk_goto xd_691562f0 (t := 7) rfl ?_
            exact ih (i + 1) _ _ (by omega) (by rw [p10_]; omega) (by rw [hs_u1_self, p7_]; omega) (fun j hj => jBw_eq (w := wL) ((hs_u1_ne (by omega)).trans (hFS 117 j (by omega)).1) ((hs_u1_ne (by omega)).trans (hFS 119 j (by omega)).1) (by
              by_cases e : j = i
              · subst e
                exact (hL2 (by omega)).2
              · exact jBw_eq (hFL 117 j (by omega) (by omega)) (hFL 119 j (by omega) (by omega)) (hrows j (by omega)))) hf8_ hG9_
          · have h47_5 := aw_ne_f (a := ((xS).toInt : Int)) (b := (0 : Int)) rfl hb_z h47_5
            refine wk_iconst xd_a2bfab8b ?_
            exact wk_ireturn xd_f979dd13 xr_00814a6a wk_z0 (hk1 _ hf5_ hGS)
      · have h20_2 := aw_ne_f (a := ((w.1 2 5).toInt : Int)) (b := (0 : Int)) rfl hb_z h20_2
        refine wk_aload_n xd_7f7f421b rfl ?_
        refine wk_getR xf_0c298976 xd_39b64e7e ?_
        obtain ⟨xK, wK, hCK, hGK, hFK, hxK⟩ := xs_59_4187aa83 (w := w) hG
        refine wk_call (kd := 0) (i := 50) xd_3b4ef0de rfl (wk_cal (as := [.inr (.inr (some 2))]) (t := []) xl_fa876ce9 rfl xn_e06b76c8 xc_647a832b rfl rfl xv_dbeffa2c rfl) (cm_C_mono (by omega) hCK) ?_
        have hf11_ : jBh w1 wK := fun k i x1 x2 => ((hFK k i (by omega)).1).trans (hF k i x1 x2)
        exact wk_ireturn xd_1452040d xr_00814a6a (aw_bit (by omega) (by omega)) (hk _ _ i hf11_ hGK (by omega) (by rw [(hFK 116 2 (by omega)).1]; exact hn) (fun j hj => jBw_eq (hFK 117 j (by omega)).1 (hFK 119 j (by omega)).1 (hrows j hj)) (by omega) (by omega))
theorem jrb_ok {w : cm_W} (hG : sv_w sg w) : ∃ x w', cm_C 7 50 [.inr (.inr (some 116))] w (some (.inl x), w') ∧ sv_w sg w' ∧ jBh w w' ∧ 0 ≤ x.toInt ∧ x.toInt ≤ 1 ∧ (x.toInt = 1 → ∃ n : Nat, n ≤ 40 ∧ (w'.1 116 2).toInt = (n : Int) ∧ ∀ j, j < n → jBw w' j) := by
  have h : ∃ o, cm_C (6 + 1) 50 [.inr (.inr (some 116))] w o ∧ (fun o : cm_O => ∃ x w', o = (some (.inl x), w') ∧ sv_w sg w' ∧ jBh w w' ∧ 0 ≤ x.toInt ∧ x.toInt ≤ 1 ∧ (x.toInt = 1 → ∃ n : Nat, n ≤ 40 ∧ (w'.1 116 2).toInt = (n : Int) ∧ ∀ j, j < n → jBw w' j)) o := by
    refine wk_entry (by rw [xm_156f76cd]; exact Nat.le_of_ble_eq_true rfl) ?_
    rw [show cm_ent 50 [.inr (.inr (some 116))] = [some (.inr (.inr (some 116))), none] from by unfold cm_ent; rw [xm_156f76cd]; rfl]
    refine wk_aload_n xd_3a5599e9 rfl ?_
    refine wk_iconst xd_0fd17d88 ?_
    refine wk_putI xf_0293f975 (fun ci => wk_fitI ci) xd_7b9f30e3 ?_
    have hG1_ : sv_w sg (cm_u1 w 116 2 (Int32.ofInt 0)) := sv_w_u1 hG (by rw [xg_4b821ff3]; exact hb_mk (by rw [(show ((Int32.ofInt 0)).toInt = 0 from by decide)]; omega) (by rw [(show ((Int32.ofInt 0)).toInt = 0 from by decide)]; omega))
    refine wk_iconst xd_5370ee88 ?_
    refine wk_istore_n xd_f4c07cf3 (by rw [xm_156f76cd]; rfl) rfl ?_
    exact jrb_l (cm_u1 w 116 2 (Int32.ofInt 0)) _ (fun w2 a b => ⟨_, w2, rfl, b, fun k i x1 x2 => (a k i x1 x2).trans (hs_u1_ne (by omega)), by decide, by decide, fun h => absurd h (by decide)⟩) (fun x w2 n a b c d e f g => ⟨x, w2, rfl, b, fun k i x1 x2 => (a k i x1 x2).trans (hs_u1_ne (by omega)), f, g, fun _ => ⟨n, c, d, e⟩⟩) 41 0 _ (cm_u1 w 116 2 (Int32.ofInt 0)) (by omega) (by decide) (by rw [hs_u1_self]; decide) (fun j hj => absurd hj (Nat.not_lt_zero j)) jBh_rf hG1_
  obtain ⟨o, hC, x, w', rfl, a⟩ := h
  exact ⟨x, w', hC, a⟩

set_option maxRecDepth 100000 in
theorem xd_89b1c56e : decode (ia_code 230) 0 = .ok (.aload_n 0, 1) := fdd_d (by decide +kernel)
set_option maxRecDepth 100000 in
theorem xd_8df7d470 : decode (ia_code 230) 1 = .ok (.iconst 0, 1) := fdd_d (by decide +kernel)
set_option maxRecDepth 100000 in
theorem xd_1e6b5f49 : decode (ia_code 230) 2 = .ok (.lload_n 1, 1) := fdd_d (by decide +kernel)
set_option maxRecDepth 100000 in
theorem xl_4bb2ecbe : ia_pl (ia_cls 230) 80 = some (1, 232, 0, 0, 781) := by decide +kernel
set_option maxRecDepth 100000 in
theorem xn_63c5ea14 : ia_na 232 = 3 := by decide +kernel
set_option maxRecDepth 100000 in
theorem xc_fd3f0af7 : ia_mc 232 = 0 ∧ ia_ms 232 = 0 := ⟨by decide +kernel, by decide +kernel⟩
set_option maxRecDepth 100000 in
theorem xv_2e6e1144 : cm_rcv 232 [.inr (.inr (some 18))] = true := by decide +kernel
set_option maxRecDepth 100000 in
theorem xd_7a3f8e15 : decode (ia_code 230) 3 = .ok (.invokevirtual 80, 3) := fdd_d (by decide +kernel)
set_option maxRecDepth 100000 in
theorem xd_b9222f98 : decode (ia_code 230) 6 = .ok (.iconst (-1), 1) := fdd_d (by decide +kernel)
set_option maxRecDepth 100000 in
theorem xd_f57d0a19 : decode (ia_code 230) 7 = .ok (.if_icmp .ne 23, 3) := fdd_d (by decide +kernel)
set_option maxRecDepth 100000 in
theorem xd_c1f1acc6 : decode (ia_code 230) 30 = .ok (.iconst 1, 1) := fdd_d (by decide +kernel)
set_option maxRecDepth 100000 in
theorem xd_40f2d8ac : decode (ia_code 230) 31 = .ok (.goto 4, 3) := fdd_d (by decide +kernel)
set_option maxRecDepth 100000 in
theorem xd_1b572ad0 : decode (ia_code 230) 35 = .ok (.ireturn, 1) := fdd_d (by decide +kernel)
set_option maxRecDepth 100000 in
theorem xr_03255aee : ia_ret 230 = some .boolean := by decide +kernel
set_option maxRecDepth 100000 in
theorem xd_22eb20d1 : decode (ia_code 230) 10 = .ok (.aload_n 0, 1) := fdd_d (by decide +kernel)
set_option maxRecDepth 100000 in
theorem xd_3b4f1bef : decode (ia_code 230) 11 = .ok (.iconst 1, 1) := fdd_d (by decide +kernel)
set_option maxRecDepth 100000 in
theorem xd_b531baf6 : decode (ia_code 230) 12 = .ok (.lload_n 1, 1) := fdd_d (by decide +kernel)
set_option maxRecDepth 100000 in
theorem xd_02427203 : decode (ia_code 230) 13 = .ok (.invokevirtual 80, 3) := fdd_d (by decide +kernel)
set_option maxRecDepth 100000 in
theorem xd_0a1f2042 : decode (ia_code 230) 16 = .ok (.iconst (-1), 1) := fdd_d (by decide +kernel)
set_option maxRecDepth 100000 in
theorem xd_2c07983c : decode (ia_code 230) 17 = .ok (.if_icmp .ne 13, 3) := fdd_d (by decide +kernel)
set_option maxRecDepth 100000 in
theorem xd_7af589f9 : decode (ia_code 230) 20 = .ok (.aload_n 0, 1) := fdd_d (by decide +kernel)
set_option maxRecDepth 100000 in
theorem xd_0a0a5802 : decode (ia_code 230) 21 = .ok (.iconst 2, 1) := fdd_d (by decide +kernel)
set_option maxRecDepth 100000 in
theorem xd_ed2f13de : decode (ia_code 230) 22 = .ok (.lload_n 1, 1) := fdd_d (by decide +kernel)
set_option maxRecDepth 100000 in
theorem xd_116a4b70 : decode (ia_code 230) 23 = .ok (.invokevirtual 80, 3) := fdd_d (by decide +kernel)
set_option maxRecDepth 100000 in
theorem xd_f848cdba : decode (ia_code 230) 26 = .ok (.iconst (-1), 1) := fdd_d (by decide +kernel)
set_option maxRecDepth 100000 in
theorem xd_0fe497f8 : decode (ia_code 230) 27 = .ok (.if_icmp .eq 7, 3) := fdd_d (by decide +kernel)
set_option maxRecDepth 100000 in
theorem xd_a0301676 : decode (ia_code 230) 34 = .ok (.iconst 0, 1) := fdd_d (by decide +kernel)
set_option maxRecDepth 100000 in
theorem xm_65b84bf0 : ia_maxL 230 = 3 := by decide +kernel
set_option maxRecDepth 100000 in
theorem xd_c5a7e4b1 : decode (ia_code 186) 0 = .ok (.aload_n 0, 1) := fdd_d (by decide +kernel)
set_option maxRecDepth 100000 in
theorem xl_645059cf : ia_pl (ia_cls 186) 91 = some (1, 185, 0, 0, 802) := by decide +kernel
set_option maxRecDepth 100000 in
theorem xn_64c4bd76 : ia_na 185 = 1 := by decide +kernel
set_option maxRecDepth 100000 in
theorem xc_dd7787d2 : ia_mc 185 = 0 ∧ ia_ms 185 = 0 := ⟨by decide +kernel, by decide +kernel⟩
set_option maxRecDepth 100000 in
theorem xv_4dda2033 : cm_rcv 185 [.inr (.inr (some 2))] = true := by decide +kernel
set_option maxRecDepth 100000 in
theorem xd_5bdb9288 : decode (ia_code 186) 1 = .ok (.invokevirtual 91, 3) := fdd_d (by decide +kernel)
set_option maxRecDepth 100000 in
theorem xd_28d10cae : decode (ia_code 186) 4 = .ok (.ifCond .ne 11, 3) := fdd_d (by decide +kernel)
set_option maxRecDepth 100000 in
theorem xd_92849b42 : decode (ia_code 186) 15 = .ok (.aload_n 1, 1) := fdd_d (by decide +kernel)
set_option maxRecDepth 100000 in
theorem xd_f9c20bc2 : decode (ia_code 186) 16 = .ok (.iload_n 2, 1) := fdd_d (by decide +kernel)
set_option maxRecDepth 100000 in
theorem xd_4272611b : decode (ia_code 186) 17 = .ok (.aload_n 0, 1) := fdd_d (by decide +kernel)
set_option maxRecDepth 100000 in
theorem xd_9e6b0fb0 : decode (ia_code 186) 18 = .ok (.getfield 73, 3) := fdd_d (by decide +kernel)
set_option maxRecDepth 100000 in
theorem xf_95dbfd97 : wk_gf 186 73 2 7 1 = true := by decide +kernel
set_option maxRecDepth 100000 in
theorem xl_591f362b : ia_pl (ia_cls 186) 94 = some (1, 232, 0, 0, 803) := by decide +kernel
set_option maxRecDepth 100000 in
theorem xd_a90cfa53 : decode (ia_code 186) 21 = .ok (.invokevirtual 94, 3) := fdd_d (by decide +kernel)
set_option maxRecDepth 100000 in
theorem xd_0005d670 : decode (ia_code 186) 24 = .ok (.istore_n 3, 1) := fdd_d (by decide +kernel)
set_option maxRecDepth 100000 in
theorem xm_2fb3c1ad : ia_maxL 186 = 4 := by decide +kernel
set_option maxRecDepth 100000 in
theorem xd_ea59b267 : decode (ia_code 186) 25 = .ok (.iload_n 3, 1) := fdd_d (by decide +kernel)
set_option maxRecDepth 100000 in
theorem xd_06d61f49 : decode (ia_code 186) 26 = .ok (.iconst (-1), 1) := fdd_d (by decide +kernel)
set_option maxRecDepth 100000 in
theorem xd_2963720a : decode (ia_code 186) 27 = .ok (.if_icmp .ne 9, 3) := fdd_d (by decide +kernel)
set_option maxRecDepth 100000 in
theorem xd_003a47c0 : decode (ia_code 186) 36 = .ok (.aload_n 0, 1) := fdd_d (by decide +kernel)
set_option maxRecDepth 100000 in
theorem xl_e5b94099 : ia_pl (ia_cls 186) 87 = some (1, 184, 0, 0, 756) := by decide +kernel
set_option maxRecDepth 100000 in
theorem xd_a255f1c7 : decode (ia_code 186) 37 = .ok (.invokevirtual 87, 3) := fdd_d (by decide +kernel)
set_option maxRecDepth 100000 in
theorem xd_33b9d04a : decode (ia_code 186) 40 = .ok (.ifCond .eq 7, 3) := fdd_d (by decide +kernel)
set_option maxRecDepth 100000 in
theorem xd_b7ae924d : decode (ia_code 186) 43 = .ok (.iload_n 3, 1) := fdd_d (by decide +kernel)
set_option maxRecDepth 100000 in
theorem xd_591314a7 : decode (ia_code 186) 44 = .ok (.goto 4, 3) := fdd_d (by decide +kernel)
set_option maxRecDepth 100000 in
theorem xd_a96e1be2 : decode (ia_code 186) 48 = .ok (.ireturn, 1) := fdd_d (by decide +kernel)
set_option maxRecDepth 100000 in
theorem xr_f855882b : ia_ret 186 = some .int := by decide +kernel
set_option maxRecDepth 100000 in
theorem xd_edf035ba : decode (ia_code 186) 30 = .ok (.aload_n 0, 1) := fdd_d (by decide +kernel)
set_option maxRecDepth 100000 in
theorem xd_e00fbab9 : decode (ia_code 186) 31 = .ok (.iconst 3, 1) := fdd_d (by decide +kernel)
set_option maxRecDepth 100000 in
theorem xl_2de59c4d : ia_pl (ia_cls 186) 80 = some (1, 63, 0, 0, 738) := by decide +kernel
set_option maxRecDepth 100000 in
theorem xd_dd9642ff : decode (ia_code 186) 32 = .ok (.invokevirtual 80, 3) := fdd_d (by decide +kernel)
set_option maxRecDepth 100000 in
theorem xd_62568717 : decode (ia_code 186) 35 = .ok (.pop, 1) := fdd_d (by decide +kernel)
set_option maxRecDepth 100000 in
theorem xd_9c8352f6 : decode (ia_code 186) 47 = .ok (.iconst (-1), 1) := fdd_d (by decide +kernel)
set_option maxRecDepth 100000 in
theorem xd_b31e7c1f : decode (ia_code 186) 7 = .ok (.aload_n 0, 1) := fdd_d (by decide +kernel)
set_option maxRecDepth 100000 in
theorem xd_61cd3e21 : decode (ia_code 186) 8 = .ok (.iconst 1, 1) := fdd_d (by decide +kernel)
set_option maxRecDepth 100000 in
theorem xd_9591769c : decode (ia_code 186) 9 = .ok (.invokevirtual 80, 3) := fdd_d (by decide +kernel)
set_option maxRecDepth 100000 in
theorem xd_471090df : decode (ia_code 186) 12 = .ok (.pop, 1) := fdd_d (by decide +kernel)
set_option maxRecDepth 100000 in
theorem xd_aab72844 : decode (ia_code 186) 13 = .ok (.iconst (-1), 1) := fdd_d (by decide +kernel)
set_option maxRecDepth 100000 in
theorem xd_d5ece1ef : decode (ia_code 186) 14 = .ok (.ireturn, 1) := fdd_d (by decide +kernel)
set_option maxRecDepth 100000 in
theorem xr_bf5e81c0 : ia_ret 240 = some .long := by decide +kernel
set_option maxRecDepth 100000 in
theorem xd_5b6483e8 : decode (ia_code 240) 0 = .ok (.aload_n 0, 1) := fdd_d (by decide +kernel)
set_option maxRecDepth 100000 in
theorem xd_64b00086 : decode (ia_code 240) 1 = .ok (.getfield 9, 3) := fdd_d (by decide +kernel)
set_option maxRecDepth 100000 in
theorem xf_dcf1005a : wk_gf 240 9 32 0 (2 + 3) = true := by decide +kernel
set_option maxRecDepth 100000 in
theorem xl_85b7df70 : ia_pl (ia_cls 240) 162 = some (1, 185, 0, 0, 773) := by decide +kernel
set_option maxRecDepth 100000 in
theorem xd_ae638c6f : decode (ia_code 240) 4 = .ok (.invokevirtual 162, 3) := fdd_d (by decide +kernel)
set_option maxRecDepth 100000 in
theorem xd_623820ee : decode (ia_code 240) 7 = .ok (.ifCond .ne 15, 3) := fdd_d (by decide +kernel)
set_option maxRecDepth 100000 in
theorem xd_936aa943 : decode (ia_code 240) 22 = .ok (.aload_n 0, 1) := fdd_d (by decide +kernel)
set_option maxRecDepth 100000 in
theorem xd_677faada : decode (ia_code 240) 23 = .ok (.getfield 15, 3) := fdd_d (by decide +kernel)
set_option maxRecDepth 100000 in
theorem xf_ec263521 : wk_gf 240 15 32 1 (18 + 3) = true := by decide +kernel
set_option maxRecDepth 100000 in
theorem xd_933608d0 : decode (ia_code 240) 26 = .ok (.aload_n 0, 1) := fdd_d (by decide +kernel)
set_option maxRecDepth 100000 in
theorem xd_4c7aea93 : decode (ia_code 240) 27 = .ok (.getfield 9, 3) := fdd_d (by decide +kernel)
set_option maxRecDepth 100000 in
theorem xd_65f51a2f : decode (ia_code 240) 30 = .ok (.getfield 165, 3) := fdd_d (by decide +kernel)
set_option maxRecDepth 100000 in
theorem xf_216651e2 : wk_gf 240 165 2 7 1 = true := by decide +kernel
set_option maxRecDepth 100000 in
theorem xl_adc0173c : ia_pl (ia_cls 240) 169 = some (1, 230, 0, 0, 777) := by decide +kernel
set_option maxRecDepth 100000 in
theorem xn_6e0289e2 : ia_na 230 = 2 := by decide +kernel
set_option maxRecDepth 100000 in
theorem xc_6a698a7e : ia_mc 230 = 0 ∧ ia_ms 230 = 0 := ⟨by decide +kernel, by decide +kernel⟩
set_option maxRecDepth 100000 in
theorem xv_16ab1c51 : cm_rcv 230 [.inr (.inr (some 18))] = true := by decide +kernel
set_option maxRecDepth 100000 in
theorem xd_6294ac23 : decode (ia_code 240) 33 = .ok (.invokevirtual 169, 3) := fdd_d (by decide +kernel)
set_option maxRecDepth 100000 in
theorem xd_bc11b712 : decode (ia_code 240) 36 = .ok (.ifCond .eq 12, 3) := fdd_d (by decide +kernel)
set_option maxRecDepth 100000 in
theorem xd_ce786bdc : decode (ia_code 240) 48 = .ok (.aload_n 0, 1) := fdd_d (by decide +kernel)
set_option maxRecDepth 100000 in
theorem xd_4591e8db : decode (ia_code 240) 49 = .ok (.getfield 9, 3) := fdd_d (by decide +kernel)
set_option maxRecDepth 100000 in
theorem xl_2521765f : ia_pl (ia_cls 240) 82 = some (1, 184, 0, 0, 760) := by decide +kernel
set_option maxRecDepth 100000 in
theorem xd_7c340c94 : decode (ia_code 240) 52 = .ok (.invokevirtual 82, 3) := fdd_d (by decide +kernel)
set_option maxRecDepth 100000 in
theorem xd_52baf88a : decode (ia_code 240) 55 = .ok (.ifCond .ne 7, 3) := fdd_d (by decide +kernel)
set_option maxRecDepth 100000 in
theorem xd_fa6c371c : decode (ia_code 240) 62 = .ok (.aload_n 0, 1) := fdd_d (by decide +kernel)
set_option maxRecDepth 100000 in
theorem xd_dec13e37 : decode (ia_code 240) 63 = .ok (.getfield 9, 3) := fdd_d (by decide +kernel)
set_option maxRecDepth 100000 in
theorem xd_55e6b79a : decode (ia_code 240) 66 = .ok (.getfield 165, 3) := fdd_d (by decide +kernel)
set_option maxRecDepth 100000 in
theorem xd_875aea65 : decode (ia_code 240) 69 = .ok (.lstore_n 1, 1) := fdd_d (by decide +kernel)
set_option maxRecDepth 100000 in
theorem xm_78bd7b48 : ia_maxL 240 = 3 := by decide +kernel
set_option maxRecDepth 100000 in
theorem xd_96df81d2 : decode (ia_code 240) 70 = .ok (.aload_n 0, 1) := fdd_d (by decide +kernel)
set_option maxRecDepth 100000 in
theorem xd_a2716236 : decode (ia_code 240) 71 = .ok (.getfield 9, 3) := fdd_d (by decide +kernel)
set_option maxRecDepth 100000 in
theorem xl_a3912e49 : ia_pl (ia_cls 240) 72 = some (1, 61, 0, 0, 751) := by decide +kernel
set_option maxRecDepth 100000 in
theorem xd_19ef25d3 : decode (ia_code 240) 74 = .ok (.invokevirtual 72, 3) := fdd_d (by decide +kernel)
set_option maxRecDepth 100000 in
theorem xd_9a2a50b2 : decode (ia_code 240) 77 = .ok (.lload_n 1, 1) := fdd_d (by decide +kernel)
set_option maxRecDepth 100000 in
theorem xd_46b3e0e7 : decode (ia_code 240) 78 = .ok (.lreturn, 1) := fdd_d (by decide +kernel)
set_option maxRecDepth 100000 in
theorem xd_6413b67f : decode (ia_code 240) 39 = .ok (.aload_n 0, 1) := fdd_d (by decide +kernel)
set_option maxRecDepth 100000 in
theorem xd_16b9b142 : decode (ia_code 240) 40 = .ok (.getfield 9, 3) := fdd_d (by decide +kernel)
set_option maxRecDepth 100000 in
theorem xd_26258cce : decode (ia_code 240) 43 = .ok (.iconst 3, 1) := fdd_d (by decide +kernel)
set_option maxRecDepth 100000 in
theorem xl_aa75ac17 : ia_pl (ia_cls 240) 69 = some (1, 63, 0, 0, 750) := by decide +kernel
set_option maxRecDepth 100000 in
theorem xd_b64bfe14 : decode (ia_code 240) 44 = .ok (.invokevirtual 69, 3) := fdd_d (by decide +kernel)
set_option maxRecDepth 100000 in
theorem xd_327e944f : decode (ia_code 240) 47 = .ok (.pop, 1) := fdd_d (by decide +kernel)
set_option maxRecDepth 100000 in
theorem xd_ff11f6f7 : decode (ia_code 240) 58 = .ok (.ldc2_w 173, 3) := fdd_d (by decide +kernel)
set_option maxRecDepth 100000 in
theorem xl_f215ee26 : ia_pl (ia_cls 240) 173 = some (9, 18446744073709551615, 0, 0, 785) := by decide +kernel
set_option maxRecDepth 100000 in
theorem xd_ebb30ecf : decode (ia_code 240) 61 = .ok (.lreturn, 1) := fdd_d (by decide +kernel)
set_option maxRecDepth 100000 in
theorem xd_26e2d382 : decode (ia_code 240) 10 = .ok (.aload_n 0, 1) := fdd_d (by decide +kernel)
set_option maxRecDepth 100000 in
theorem xd_c9aa0e90 : decode (ia_code 240) 11 = .ok (.getfield 9, 3) := fdd_d (by decide +kernel)
set_option maxRecDepth 100000 in
theorem xd_a213aaa9 : decode (ia_code 240) 14 = .ok (.iconst 1, 1) := fdd_d (by decide +kernel)
set_option maxRecDepth 100000 in
theorem xd_bf535689 : decode (ia_code 240) 15 = .ok (.invokevirtual 69, 3) := fdd_d (by decide +kernel)
set_option maxRecDepth 100000 in
theorem xd_1006c67d : decode (ia_code 240) 18 = .ok (.pop, 1) := fdd_d (by decide +kernel)
set_option maxRecDepth 100000 in
theorem xd_0633728f : decode (ia_code 240) 19 = .ok (.goto 29, 3) := fdd_d (by decide +kernel)
set_option maxRecDepth 100000 in
theorem xd_af5014bc : decode (ia_code 188) 0 = .ok (.aload_n 0, 1) := fdd_d (by decide +kernel)
set_option maxRecDepth 100000 in
theorem xd_0943d7d8 : decode (ia_code 188) 1 = .ok (.aload_n 1, 1) := fdd_d (by decide +kernel)
set_option maxRecDepth 100000 in
theorem xd_62054758 : decode (ia_code 188) 2 = .ok (.iload_n 2, 1) := fdd_d (by decide +kernel)
set_option maxRecDepth 100000 in
theorem xl_65deb051 : ia_pl (ia_cls 188) 100 = some (1, 186, 0, 0, 812) := by decide +kernel
set_option maxRecDepth 100000 in
theorem xd_f311a08d : decode (ia_code 188) 3 = .ok (.invokevirtual 100, 3) := fdd_d (by decide +kernel)
set_option maxRecDepth 100000 in
theorem xd_95948f65 : decode (ia_code 188) 6 = .ok (.istore_n 3, 1) := fdd_d (by decide +kernel)
set_option maxRecDepth 100000 in
theorem xm_90837fcc : ia_maxL 188 = 4 := by decide +kernel
set_option maxRecDepth 100000 in
theorem xd_c44a25af : decode (ia_code 188) 7 = .ok (.iload_n 3, 1) := fdd_d (by decide +kernel)
set_option maxRecDepth 100000 in
theorem xd_bc28b3b7 : decode (ia_code 188) 8 = .ok (.iconst (-1), 1) := fdd_d (by decide +kernel)
set_option maxRecDepth 100000 in
theorem xd_0df7f1ee : decode (ia_code 188) 9 = .ok (.if_icmp .eq 7, 3) := fdd_d (by decide +kernel)
set_option maxRecDepth 100000 in
theorem xd_a786a111 : decode (ia_code 188) 12 = .ok (.aload_n 0, 1) := fdd_d (by decide +kernel)
set_option maxRecDepth 100000 in
theorem xl_1a525883 : ia_pl (ia_cls 188) 55 = some (1, 61, 0, 0, 718) := by decide +kernel
set_option maxRecDepth 100000 in
theorem xd_ac2985be : decode (ia_code 188) 13 = .ok (.invokevirtual 55, 3) := fdd_d (by decide +kernel)
set_option maxRecDepth 100000 in
theorem xd_ba79a93f : decode (ia_code 188) 16 = .ok (.iload_n 3, 1) := fdd_d (by decide +kernel)
set_option maxRecDepth 100000 in
theorem xd_e9229c1d : decode (ia_code 188) 17 = .ok (.ireturn, 1) := fdd_d (by decide +kernel)
set_option maxRecDepth 100000 in
theorem xr_02b3849b : ia_ret 188 = some .int := by decide +kernel
set_option maxRecDepth 100000 in
theorem xd_a53c2f50 : decode (ia_code 229) 2 = .ok (.iload_n 3, 1) := fdd_d (by decide +kernel)
set_option maxRecDepth 100000 in
theorem xd_23ec6c39 : decode (ia_code 229) 3 = .ok (.aload_n 0, 1) := fdd_d (by decide +kernel)
set_option maxRecDepth 100000 in
theorem xd_11a39464 : decode (ia_code 229) 4 = .ok (.getfield 71, 3) := fdd_d (by decide +kernel)
set_option maxRecDepth 100000 in
theorem xf_cef68a7d : wk_gf 229 71 18 6 0 = true := by decide +kernel
set_option maxRecDepth 100000 in
theorem xd_60409774 : decode (ia_code 229) 7 = .ok (.if_icmp .ge 31, 3) := fdd_d (by decide +kernel)
set_option maxRecDepth 100000 in
theorem xd_996a331c : decode (ia_code 229) 38 = .ok (.iconst 0, 1) := fdd_d (by decide +kernel)
set_option maxRecDepth 100000 in
theorem xd_42c18233 : decode (ia_code 229) 39 = .ok (.ireturn, 1) := fdd_d (by decide +kernel)
set_option maxRecDepth 100000 in
theorem xr_8dc168d2 : ia_ret 229 = some .boolean := by decide +kernel
set_option maxRecDepth 100000 in
theorem xd_8f501007 : decode (ia_code 229) 10 = .ok (.aload_n 0, 1) := fdd_d (by decide +kernel)
set_option maxRecDepth 100000 in
theorem xd_2c7a8fca : decode (ia_code 229) 11 = .ok (.getfield 44, 3) := fdd_d (by decide +kernel)
set_option maxRecDepth 100000 in
theorem xf_0659a829 : wk_gf 229 44 18 16 (28 + 3) = true := by decide +kernel
set_option maxRecDepth 100000 in
theorem xd_92af1829 : decode (ia_code 229) 14 = .ok (.iload_n 3, 1) := fdd_d (by decide +kernel)
set_option maxRecDepth 100000 in
theorem xd_ab0c4e20 : decode (ia_code 229) 15 = .ok (.iaload, 1) := fdd_d (by decide +kernel)
set_option maxRecDepth 100000 in
theorem xf_dd69569e : wk_ar 28 50 10 = true := by decide +kernel
set_option maxRecDepth 100000 in
theorem xd_05f998a0 : decode (ia_code 229) 16 = .ok (.iload_n 1, 1) := fdd_d (by decide +kernel)
set_option maxRecDepth 100000 in
theorem xd_877bcc91 : decode (ia_code 229) 17 = .ok (.if_icmp .ne 15, 3) := fdd_d (by decide +kernel)
set_option maxRecDepth 100000 in
theorem xd_a708fc91 : decode (ia_code 229) 32 = .ok (.iinc 3 1, 3) := fdd_d (by decide +kernel)
set_option maxRecDepth 100000 in
theorem xm_3d906f87 : ia_maxL 229 = 4 := by decide +kernel
set_option maxRecDepth 100000 in
theorem xd_4736119a : decode (ia_code 229) 35 = .ok (.goto (-33), 3) := fdd_d (by decide +kernel)
set_option maxRecDepth 100000 in
theorem xd_d74eb92f : decode (ia_code 229) 20 = .ok (.aload_n 0, 1) := fdd_d (by decide +kernel)
set_option maxRecDepth 100000 in
theorem xd_998d18e2 : decode (ia_code 229) 21 = .ok (.getfield 47, 3) := fdd_d (by decide +kernel)
set_option maxRecDepth 100000 in
theorem xf_2a8c83d2 : wk_gf 229 47 18 17 (29 + 3) = true := by decide +kernel
set_option maxRecDepth 100000 in
theorem xd_cab1b101 : decode (ia_code 229) 24 = .ok (.iload_n 3, 1) := fdd_d (by decide +kernel)
set_option maxRecDepth 100000 in
theorem xd_d012ccc3 : decode (ia_code 229) 25 = .ok (.iaload, 1) := fdd_d (by decide +kernel)
set_option maxRecDepth 100000 in
theorem xf_4066b7e8 : wk_ar 29 50 10 = true := by decide +kernel
set_option maxRecDepth 100000 in
theorem xd_1a474b58 : decode (ia_code 229) 26 = .ok (.iload_n 2, 1) := fdd_d (by decide +kernel)
set_option maxRecDepth 100000 in
theorem xd_33ddcbe0 : decode (ia_code 229) 27 = .ok (.if_icmp .ne 5, 3) := fdd_d (by decide +kernel)
set_option maxRecDepth 100000 in
theorem xd_1d493cac : decode (ia_code 229) 30 = .ok (.iconst 1, 1) := fdd_d (by decide +kernel)
set_option maxRecDepth 100000 in
theorem xd_67338b45 : decode (ia_code 229) 31 = .ok (.ireturn, 1) := fdd_d (by decide +kernel)
set_option maxRecDepth 100000 in
theorem xd_f442159e : decode (ia_code 229) 0 = .ok (.iconst 0, 1) := fdd_d (by decide +kernel)
set_option maxRecDepth 100000 in
theorem xd_61ccdaed : decode (ia_code 229) 1 = .ok (.istore_n 3, 1) := fdd_d (by decide +kernel)
/-! ## the class's valley reader: what is known of the world (wip/p4/gen9vk.py) -/
section TXN
variable {C : Nat → List cm_V → cm_W → cm_O → Prop} {y pc : Nat} {lv : cm_L} {st : List cm_V} {w : cm_W} {Q : cm_O → Prop}
theorem aw_lreturn {x : Int64} (hd : decode (ia_code y) pc = .ok (.lreturn, 1)) (hty : ia_ret y = some .long) (k : Q (some (.inr (.inl x)), w)) : cm_X C y pc lv [.inr (.inl x)] w Q := by
  refine cm_X_ret (r := some (.inr (.inl x))) hd ?_ k
  show (match ia_ret y with
    | some .long => some (some (Sum.inr (Sum.inl x) : cm_V))
    | _ => none) = _
  rw [hty]
theorem aw_lstore_n {i : Fin 4} {x : Int64} (hd : decode (ia_code y) pc = .ok (.lstore_n i, 1)) (hm : Nat.blt (Nat.succ i.val) (ia_maxL y) = true) (hn : ia_nl (cm_el lv) i.val = true) (k : cm_X C y (pc + 1) ((lv.set i.val (some (.inr (.inl x)))).set (Nat.succ i.val) none) st w Q) : cm_X C y pc lv (.inr (.inl x) :: st) w Q := by
  refine cm_X_do (q := (pc + 1, (lv.set i.val (some (.inr (.inl x)))).set (Nat.succ i.val) none, st, w)) hd ?_ k
  show ia_if (Nat.beq 1 1 && Nat.blt (Nat.succ i.val) (ia_maxL y)) (ia_if (ia_nl (cm_el lv) i.val) (cm_nx (Nat.add pc 1) ((lv.set i.val (some (.inr (.inl x)))).set (Nat.succ i.val) none) st w)) = _
  rw [hm, hn]
  rfl
theorem ax_tsw {x : Int32} {d lo hi o : Int} {os : Array Int} {len j t : Nat} (hd : decode (ia_code y) pc = .ok (.tableswitch d lo hi os, len)) (h1 : lo ≤ x.toInt) (h2 : x.toInt ≤ hi) (hj : (x.toInt - lo).toNat = j) (ho : ia_at os.toList j = some o) (ht : Int.add (Int.ofNat pc) o = .ofNat t) (k : cm_X C y t lv st w Q) : cm_X C y pc lv (.inl x :: st) w Q := by
  refine cm_X_do (q := (t, lv, st, w)) hd ?_ k
  show (match decide (x.toInt < lo) || decide (hi < x.toInt) with
    | true => cm_jmp d pc lv st w
    | false => (match ia_at os.toList (x.toInt - lo).toNat with
      | some o => cm_jmp o pc lv st w
      | none => none)) = _
  rw [decide_eq_false (by omega), decide_eq_false (by omega), hj, ho]
  show cm_jmp o pc lv st w = _
  unfold cm_jmp
  rw [ht]
  rfl
theorem ax_tsd {x : Int32} {d lo hi : Int} {os : Array Int} {len t : Nat} (hd : decode (ia_code y) pc = .ok (.tableswitch d lo hi os, len)) (h1 : x.toInt < lo ∨ hi < x.toInt) (ht : Int.add (Int.ofNat pc) d = .ofNat t) (k : cm_X C y t lv st w Q) : cm_X C y pc lv (.inl x :: st) w Q := by
  refine cm_X_do (q := (t, lv, st, w)) hd ?_ k
  show (match decide (x.toInt < lo) || decide (hi < x.toInt) with
    | true => cm_jmp d pc lv st w
    | false => (match ia_at os.toList (x.toInt - lo).toNat with
      | some o => cm_jmp o pc lv st w
      | none => none)) = _
  have e : (decide (x.toInt < lo) || decide (hi < x.toInt)) = true := by
    rw [Bool.or_eq_true]
    exact h1.imp (fun z => decide_eq_true z) (fun z => decide_eq_true z)
  rw [e]
  show cm_jmp d pc lv st w = _
  unfold cm_jmp
  rw [ht]
  rfl
end TXN
theorem rd_L_fr {w w' : cm_W} {T : Nat → Int} {n m p : Nat} (hF : ∀ k i, k ≤ 3 → w'.1 k i = w.1 k i ∧ w'.2 k i = w.2 k i) (h : rd_L w T n m p) : rd_L w' T n m p := by
  obtain ⟨h1, h2, h3⟩ := h
  refine ⟨⟨fun j hj => by rw [(hF 1 j (by omega)).1]; exact h1.1 j hj, by rw [(hF 2 2 (by omega)).1]; exact h1.2.1, by rw [(hF 2 3 (by omega)).1]; exact h1.2.2.1, h1.2.2.2.1, h1.2.2.2.2.1, fun k hk => by rw [(hF 3 k (by omega)).2]; exact h1.2.2.2.2.2 k hk⟩, ?_, h3⟩
  unfold rd_C at h2 ⊢
  rw [(hF 2 6 (by omega)).1, (hF 2 5 (by omega)).1, (hF 2 8 (by omega)).1, (hF 2 2 (by omega)).1, (hF 2 3 (by omega)).1, (hF 2 4 (by omega)).1, (hF 2 7 (by omega)).2, (hF 2 9 (by omega)).1, (hF 2 10 (by omega)).1]
  exact h2
/-- nothing but the reader's places, its fault and the spare valley has changed -/
def cs_V (w w' : cm_W) : Prop := ∀ k i, ¬ (k = 2 ∧ 4 ≤ i ∧ i ≤ 12) → ¬ (18 ≤ k ∧ k ≤ 32) → w'.1 k i = w.1 k i ∧ w'.2 k i = w.2 k i
theorem cs_V_rf (w : cm_W) : cs_V w w := fun _ _ _ _ => ⟨rfl, rfl⟩
theorem cs_V_tr {w w1 w2 : cm_W} (h1 : cs_V w w1) (h2 : cs_V w1 w2) : cs_V w w2 := fun k i a b => ⟨(h2 k i a b).1.trans (h1 k i a b).1, (h2 k i a b).2.trans (h1 k i a b).2⟩
theorem cs_V_u1 {w w1 : cm_W} {c i : Nat} {x : Int32} (h : cs_V w w1) (h1 : 18 ≤ c) (h2 : c ≤ 32) : cs_V w (cm_u1 w1 c i x) := fun k j a b => ⟨(hs_u1_ne (by omega)).trans (h k j a b).1, (h k j a b).2⟩
theorem cs_V_u2 {w w1 : cm_W} {c i : Nat} {x : Int64} (h : cs_V w w1) (h1 : 18 ≤ c) (h2 : c ≤ 32) : cs_V w (cm_u2 w1 c i x) := fun k j a b => ⟨(h k j a b).1, (tx_u2_ne (by omega)).trans (h k j a b).2⟩
theorem cs_V_E {w w' : cm_W} (h : rd_E w w') : cs_V w w' := fun k i a _ => h k i a
/-- the reader looks at the token from p on, no fault stands; the spare valley's numbers and names are f and g; told: a0, b0 -/
def cs_M (w : cm_W) (T : Nat → Int) (n m p : Nat) (f : Nat → Int) (g : Nat → Int64) (a0 b0 : Int) : Prop := rd_L w T n m p ∧ (w.1 2 11).toInt = 0 ∧ vl_H w 18 = f ∧ vl_N w 18 = g ∧ (w.1 32 2).toInt = a0 ∧ (w.1 32 3).toInt = b0
/-- a fault stands -/
def cs_B (w : cm_W) (k q : Nat) : Prop := (w.1 2 11).toInt = k ∧ (w.1 2 12).toInt = q ∧ k ≠ 0
/-- nothing but the fault has changed -/
def cs_F (w w' : cm_W) : Prop := ∀ c i, ¬ (c = 2 ∧ (i = 11 ∨ i = 12)) → w'.1 c i = w.1 c i ∧ w'.2 c i = w.2 c i
theorem cs_F_C {w w' : cm_W} {t : Nat × Nat × Nat × Int × Nat} (hF : cs_F w w') (h2 : rd_C w t) : rd_C w' t := by
  unfold rd_C at h2 ⊢
  rw [(hF 2 6 (by omega)).1, (hF 2 5 (by omega)).1, (hF 2 8 (by omega)).1, (hF 2 2 (by omega)).1, (hF 2 3 (by omega)).1, (hF 2 4 (by omega)).1, (hF 2 7 (by omega)).2, (hF 2 9 (by omega)).1, (hF 2 10 (by omega)).1]
  exact h2
theorem cs_M_S {w : cm_W} {T : Nat → Int} {n m p : Nat} {f : Nat → Int} {g : Nat → Int64} {a0 b0 : Int} {w' : cm_W} {q : Nat} (hM : cs_M w T n m p f g a0 b0) (hS : rd_S w w') (hL : rd_L w' T n m q) : cs_M w' T n m q f g a0 b0 := by
  obtain ⟨-, h2, h3, h4, h5, h6⟩ := hM
  exact ⟨hL, by rw [(hS 2 11 (by omega)).1]; exact h2, (vl_H_fr (fun k i _ _ => (hS k i (by omega)).1)).trans h3, (vl_N_fr (fun k i _ _ => (hS k i (by omega)).2)).trans h4, by rw [(hS 32 2 (by omega)).1]; exact h5, by rw [(hS 32 3 (by omega)).1]; exact h6⟩
theorem cs_M_u1 {w : cm_W} {T : Nat → Int} {n m p : Nat} {f : Nat → Int} {g : Nat → Int64} {a0 b0 : Int} {c i q : Nat} {x : Int32} {e : Int} (hM : cs_M w T n m p f g a0 b0) (hc : 18 ≤ c) (hd : c ≤ 31) (hx : x.toInt = e) (hq : ∀ j, (vl_c 18 j = c ∧ vl_i j = i) ↔ j = q) : cs_M (cm_u1 w c i x) T n m p (ps_up f q e) g a0 b0 := by
  obtain ⟨h1, h2, h3, h4, h5, h6⟩ := hM
  subst h3
  exact ⟨rd_L_fr (fun k j hk => ⟨hs_u1_ne (by omega), rfl⟩) h1, by rw [hs_u1_ne (by omega)]; exact h2, vl_H_u1 hx hq, h4, by rw [hs_u1_ne (by omega)]; exact h5, by rw [hs_u1_ne (by omega)]; exact h6⟩
theorem cs_M_u2 {w : cm_W} {T : Nat → Int} {n m p : Nat} {f : Nat → Int} {g : Nat → Int64} {a0 b0 : Int} {c i q : Nat} {x : Int64} (hM : cs_M w T n m p f g a0 b0) (hc : 19 ≤ c) (hd : c ≤ 21) (hq : ∀ j, (vl_d 18 j = c ∧ vl_k j = i) ↔ j = q) : cs_M (cm_u2 w c i x) T n m p f (ps_un g q x) a0 b0 := by
  obtain ⟨h1, h2, h3, h4, h5, h6⟩ := hM
  subst h4
  exact ⟨rd_L_fr (w := w) (fun k j hk => ⟨rfl, tx_u2_ne (by omega)⟩) h1, h2, h3, vl_N_u2 hq, h5, h6⟩
theorem cs_M_a {w : cm_W} {T : Nat → Int} {n m p : Nat} {f : Nat → Int} {g : Nat → Int64} {a0 b0 : Int} {x : Int32} (hM : cs_M w T n m p f g a0 b0) (hx : x.toInt = 1) : cs_M (cm_u1 w 32 2 x) T n m p f g 1 b0 := by
  obtain ⟨h1, h2, h3, h4, h5, h6⟩ := hM
  exact ⟨rd_L_fr (fun k j hk => ⟨hs_u1_ne (by omega), rfl⟩) h1, by rw [hs_u1_ne (by omega)]; exact h2, (vl_H_fr (fun k i _ _ => hs_u1_ne (by omega))).trans h3, h4, by rw [hs_u1_self]; exact hx, by rw [hs_u1_ne (by omega)]; exact h6⟩
theorem cs_M_b {w : cm_W} {T : Nat → Int} {n m p : Nat} {f : Nat → Int} {g : Nat → Int64} {a0 b0 : Int} {x : Int32} (hM : cs_M w T n m p f g a0 b0) (hx : x.toInt = 1) : cs_M (cm_u1 w 32 3 x) T n m p f g a0 1 := by
  obtain ⟨h1, h2, h3, h4, h5, h6⟩ := hM
  exact ⟨rd_L_fr (fun k j hk => ⟨hs_u1_ne (by omega), rfl⟩) h1, by rw [hs_u1_ne (by omega)]; exact h2, (vl_H_fr (fun k i _ _ => hs_u1_ne (by omega))).trans h3, h4, by rw [hs_u1_ne (by omega)]; exact h5, by rw [hs_u1_self]; exact hx⟩
theorem cs_B_u1 {w : cm_W} {k q c i : Nat} {x : Int32} (h : cs_B w k q) (hc : 18 ≤ c) : cs_B (cm_u1 w c i x) k q := ⟨by rw [hs_u1_ne (by omega)]; exact h.1, by rw [hs_u1_ne (by omega)]; exact h.2.1, h.2.2⟩
theorem cs_B_u2 {w : cm_W} {k q c i : Nat} {x : Int64} (h : cs_B w k q) (_hc : 18 ≤ c) : cs_B (cm_u2 w c i x) k q := h
theorem cs_B_B {w w' : cm_W} {k q : Nat} (h : rd_B w w' k q) (hk : k ≠ 0) : cs_B w' k q := ⟨h.1, h.2.1, hk⟩
theorem rd_C_at {w : cm_W} {t : Nat × Nat × Nat × Int × Nat} (h : rd_C w t) (ht : 1 ≤ t.1 ∧ t.1 ≤ 3) : (w.1 2 4).toInt = t.2.2.1 := by
  obtain ⟨_, h⟩ := h
  rcases h with ⟨a, _⟩ | ⟨_, _, c, _⟩ | ⟨_, _, c, _⟩ | ⟨_, _, c, _⟩ | ⟨a, _⟩
  · omega
  · exact c
  · exact c
  · exact c
  · omega
theorem cs_next {w : cm_W} {T : Nat → Int} {n m p : Nat} {f : Nat → Int} {g : Nat → Int64} {a0 b0 : Int} (hM : cs_M w T n m p f g a0 b0) (ht : 1 ≤ (tx_tk T n m p).1 ∧ (tx_tk T n m p).1 ≤ 3) : ∃ w', cm_C 2 61 [.inr (.inr (some 2))] w (none, w') ∧ cs_V w w' ∧ cs_M w' T n m (tx_tk T n m p).2.2.1 f g a0 b0 := by
  have hb := tx_tk_b (m := m) (T := T) hM.1.2.2 ht
  obtain ⟨w', hC, hS, hR⟩ := cn_ok (w := w) (p := (tx_tk T n m p).2.2.1) hM.1.1 (rd_C_at hM.1.2.1 ht) hb.2.1
  exact ⟨w', hC, cs_V_E (rd_E_S hS), cs_M_S hM hS ⟨rd_T_S hM.1.1 hS, hR, hb.2.1⟩⟩
theorem cs_num {w : cm_W} {T : Nat → Int} {n m p : Nat} {f : Nat → Int} {g : Nat → Int64} {a0 b0 : Int} {a b : Int32} {lo hi : Int} (hM : cs_M w T n m p f g a0 b0) (ha : a.toInt = lo) (hb : b.toInt = hi) : ∃ x w', cm_C 3 189 [.inr (.inr (some 2)), .inl a, .inl b] w (some (.inl x), w') ∧ cs_V w w' ∧ ((tx_num (tx_tk T n m p) lo hi = 0 ∧ x.toInt = (tx_tk T n m p).2.2.2.1 ∧ cs_M w' T n m (tx_tk T n m p).2.2.1 f g a0 b0) ∨ (tx_num (tx_tk T n m p) lo hi ≠ 0 ∧ x.toInt = -1 ∧ cs_B w' (tx_num (tx_tk T n m p) lo hi) (tx_tk T n m p).2.1)) := by
  obtain ⟨x, w', hC, h⟩ := tn_ok (w := w) ha hb hM.1 hM.2.1
  rcases h with ⟨h1, _, _, _, h2, h3, h4⟩ | ⟨h1, h2, h3⟩
  · exact ⟨x, w', hC, cs_V_E (rd_E_S h4), .inl ⟨h1, h2, cs_M_S hM h4 h3⟩⟩
  · exact ⟨x, w', hC, cs_V_E (rd_E_B h3), .inr ⟨h1, h2, cs_B_B h3 h1⟩⟩
theorem cs_numB {w : cm_W} {a b : Int32} {k q : Nat} (hB : cs_B w k q) : cm_C 3 189 [.inr (.inr (some 2)), .inl a, .inl b] w (some (.inl (Int32.ofInt (-1))), w) := tn_bad (by have := hB.1; have := hB.2.2; omega)
theorem cs_ref {w : cm_W} {T : Nat → Int} {n m p : Nat} {f : Nat → Int} {g : Nat → Int64} {a0 b0 : Int} {k : Int32} {c : Nat} (hM : cs_M w T n m p f g a0 b0) (hk : k.toInt = c) (hc : c ≠ 0) : ∃ w', cm_C 1 63 [.inr (.inr (some 2)), .inl k] w (some (.inl (Int32.ofInt 0)), w') ∧ cs_V w w' ∧ cs_B w' c (tx_tk T n m p).2.1 ∧ cs_F w w' := by
  have hB := rf_B (w := w) (c := c) hk hM.1.2.1.1
  exact ⟨_, rf_new hM.2.1, cs_V_E (rd_E_B hB), cs_B_B hB hc, hB.2.2⟩
theorem cs_refB {w : cm_W} {k : Int32} {c q : Nat} (hB : cs_B w c q) : cm_C 1 63 [.inr (.inr (some 2)), .inl k] w (some (.inl (Int32.ofInt 0)), w) := rf_old rfl (by have := hB.1; have := hB.2.2; omega)
theorem cs_good {w : cm_W} {T : Nat → Int} {n m p : Nat} {f : Nat → Int} {g : Nat → Int64} {a0 b0 : Int} (hM : cs_M w T n m p f g a0 b0) : ∃ x, cm_C 1 184 [.inr (.inr (some 2))] w (some (.inl x), w) ∧ x.toInt = 1 := by
  obtain ⟨x, hC, h⟩ := ig_ok (w := w)
  have := hM.2.1
  exact ⟨x, hC, by omega⟩
theorem cs_goodB {w : cm_W} {k q : Nat} (hB : cs_B w k q) : ∃ x, cm_C 1 184 [.inr (.inr (some 2))] w (some (.inl x), w) ∧ x.toInt = 0 := by
  obtain ⟨x, hC, h⟩ := ig_ok (w := w)
  have := hB.1
  have := hB.2.2
  exact ⟨x, hC, by omega⟩
/-! ### a valley in its cells, and its names -/
def vl_R (w : cm_W) (v : Nat) (h : Nat → Int) (nm : Nat → Nat) : Prop := ps_Q id (vl_H w v) (vl_N w v) h nm
theorem vl_cnt {w : cm_W} {v : Nat} {h : Nat → Int} {nm : Nat → Nat} (hR : vl_R w v h nm) : (w.1 v 3).toInt = ((h 0).toNat : Int) ∧ (w.1 v 4).toInt = ((h 1).toNat : Int) ∧ (w.1 v 5).toInt = ((h 2).toNat : Int) ∧ (w.1 v 6).toInt = ((h 3).toNat : Int) := by
  obtain ⟨h1, h2, h3⟩ := hR
  unfold ps_bd at h3
  have e0 : (w.1 v 3).toInt = h 0 := h1 0 (.inl (by omega))
  have e1 : (w.1 v 4).toInt = h 1 := h1 1 (.inl (by omega))
  have e2 : (w.1 v 5).toInt = h 2 := h1 2 (.inl (by omega))
  have e3 : (w.1 v 6).toInt = h 3 := h1 3 (.inl (by omega))
  exact ⟨by omega, by omega, by omega, by omega⟩
theorem vl_n0 {w : cm_W} {v : Nat} {h : Nat → Int} {nm : Nat → Nat} (hR : vl_R w v h nm) : rd_N w (v + 1) 0 (h 0).toNat nm ∧ (h 0).toNat ≤ 6 := by
  obtain ⟨h1, h2, h3⟩ := hR
  unfold ps_bd at h3
  refine ⟨fun j hj => ?_, by omega⟩
  have g := h2 j (by unfold ps_ln; omega)
  unfold vl_N vl_d vl_k at g
  rw [if_pos (by omega), if_pos (by omega)] at g
  rw [Nat.zero_add]
  exact g
theorem vl_n1 {w : cm_W} {v : Nat} {h : Nat → Int} {nm : Nat → Nat} (hR : vl_R w v h nm) : rd_N w (v + 2) 6 (h 1).toNat nm ∧ (h 1).toNat ≤ 4 := by
  obtain ⟨h1, h2, h3⟩ := hR
  unfold ps_bd at h3
  refine ⟨fun j hj => ?_, by omega⟩
  have g := h2 (6 + j) (by unfold ps_ln; omega)
  unfold vl_N vl_d vl_k at g
  rw [if_neg (by omega), if_pos (by omega), if_neg (by omega), if_pos (by omega), Nat.add_sub_cancel_left] at g
  exact g
theorem vl_n2 {w : cm_W} {v : Nat} {h : Nat → Int} {nm : Nat → Nat} (hR : vl_R w v h nm) : rd_N w (v + 3) 10 (h 2).toNat nm ∧ (h 2).toNat ≤ 6 := by
  obtain ⟨h1, h2, h3⟩ := hR
  unfold ps_bd at h3
  refine ⟨fun j hj => ?_, by omega⟩
  have g := h2 (10 + j) (by unfold ps_ln; omega)
  unfold vl_N vl_d vl_k at g
  rw [if_neg (by omega), if_neg (by omega), if_neg (by omega), if_neg (by omega), Nat.add_sub_cancel_left] at g
  exact g
theorem cs_F_R {w w' : cm_W} {h : Nat → Int} {nm : Nat → Nat} {v : Nat} (hv : 3 ≤ v) (hF : cs_F w w') (hR : vl_R w v h nm) : vl_R w' v h nm := by
  unfold vl_R at hR ⊢
  rw [vl_H_fr (fun k i _ _ => (hF k i (by omega)).1), vl_N_fr (fun k i _ _ => (hF k i (by omega)).2)]
  exact hR
theorem cs_R {w : cm_W} {T : Nat → Int} {n m p : Nat} {f : Nat → Int} {g : Nat → Int64} {a0 b0 : Int} {h : Nat → Int} {nm : Nat → Nat} (hM : cs_M w T n m p f g a0 b0) (hQ : ps_Q id f g h nm) : vl_R w 18 h nm := by
  unfold vl_R
  rw [hM.2.2.1, hM.2.2.2.1]
  exact hQ
theorem cs_has {w : cm_W} {h : Nat → Int} {nm : Nat → Nat} {l : Int64} {c : Nat} (hR : vl_R w 18 h nm) (hl : l = Int64.ofNat c) (hc : c < 32 ^ 7) : ∃ x, cm_C 2 230 [.inr (.inr (some 18)), .inr (.inl l)] w (some (.inl x), w) ∧ ((x.toInt = 1 ∧ ps_kn h nm c) ∨ (x.toInt = 0 ∧ ¬ ps_kn h nm c)) := by
  have h : ∃ o, cm_C (1 + 1) 230 [.inr (.inr (some 18)), .inr (.inl l)] w o ∧ (fun o : cm_O => ∃ x, o = (some (.inl x), w) ∧ ((x.toInt = 1 ∧ ps_kn h nm c) ∨ (x.toInt = 0 ∧ ¬ ps_kn h nm c))) o := by
    refine wk_entry (by rw [xm_65b84bf0]; exact Nat.le_of_ble_eq_true rfl) ?_
    rw [show cm_ent 230 [.inr (.inr (some 18)), .inr (.inl l)] = [some (.inr (.inr (some 18))), some (.inr (.inl l)), none] from by unfold cm_ent; rw [xm_65b84bf0]; rfl]
    refine wk_aload_n xd_89b1c56e rfl ?_
    refine wk_iconst xd_8df7d470 ?_
    refine aw_lload_n xd_1e6b5f49 rfl ?_
    obtain ⟨xo0, hCo0, eo0⟩ := no_18_0 (w := w) (z := (Int32.ofInt 0)) (show ((Int32.ofInt 0)).toInt = 0 from by decide) (vl_cnt hR).1 (vl_n0 hR).1 (vl_n0 hR).2 hl hc
    have bo0 := tx_find_b (nm := nm) (b := 0) (k := (h 0).toNat) (c := c)
    refine wk_call (kd := 0) (i := 80) xd_7a3f8e15 rfl (wk_cal (as := [.inr (.inr (some 18)), .inl (Int32.ofInt 0), .inr (.inl l)]) (t := []) xl_4bb2ecbe rfl xn_63c5ea14 xc_fd3f0af7 rfl rfl xv_2e6e1144 rfl) (cm_C_mono (by omega) hCo0) ?_
    refine wk_iconst xd_b9222f98 ?_
    refine wk_icmp xd_f57d0a19 (t := 30) rfl (fun h7_0 => ?_) (fun h7_0 => ?_)
    · have h7_0 := aw_ne_t (a := ((tx_find nm 0 (h 0).toNat c) : Int)) (b := ((-1) : Int)) eo0 (show ((Int32.ofInt (-1))).toInt = (-1) from by decide) h7_0
      refine wk_iconst xd_c1f1acc6 ?_
      refine wk_goto xd_40f2d8ac (t := 35) rfl ?_
      exact wk_ireturn xd_1b572ad0 xr_03255aee wk_z1 ⟨_, rfl, .inl ⟨by decide, by unfold ps_kn; omega⟩⟩
    · have h7_0 := aw_ne_f (a := ((tx_find nm 0 (h 0).toNat c) : Int)) (b := ((-1) : Int)) eo0 (show ((Int32.ofInt (-1))).toInt = (-1) from by decide) h7_0
      refine wk_aload_n xd_22eb20d1 rfl ?_
      refine wk_iconst xd_3b4f1bef ?_
      refine aw_lload_n xd_b531baf6 rfl ?_
      obtain ⟨xo1, hCo1, eo1⟩ := no_18_1 (w := w) (z := (Int32.ofInt 1)) (show ((Int32.ofInt 1)).toInt = 1 from by decide) (vl_cnt hR).2.1 (vl_n1 hR).1 (vl_n1 hR).2 hl hc
      have bo1 := tx_find_b (nm := nm) (b := 6) (k := (h 1).toNat) (c := c)
      refine wk_call (kd := 0) (i := 80) xd_02427203 rfl (wk_cal (as := [.inr (.inr (some 18)), .inl (Int32.ofInt 1), .inr (.inl l)]) (t := []) xl_4bb2ecbe rfl xn_63c5ea14 xc_fd3f0af7 rfl rfl xv_2e6e1144 rfl) (cm_C_mono (by omega) hCo1) ?_
      refine wk_iconst xd_0a1f2042 ?_
      refine wk_icmp xd_2c07983c (t := 30) rfl (fun h17_1 => ?_) (fun h17_1 => ?_)
      · have h17_1 := aw_ne_t (a := ((tx_find nm 6 (h 1).toNat c) : Int)) (b := ((-1) : Int)) eo1 (show ((Int32.ofInt (-1))).toInt = (-1) from by decide) h17_1
        refine wk_iconst xd_c1f1acc6 ?_
        refine wk_goto xd_40f2d8ac (t := 35) rfl ?_
        exact wk_ireturn xd_1b572ad0 xr_03255aee wk_z1 ⟨_, rfl, .inl ⟨by decide, by unfold ps_kn; omega⟩⟩
      · have h17_1 := aw_ne_f (a := ((tx_find nm 6 (h 1).toNat c) : Int)) (b := ((-1) : Int)) eo1 (show ((Int32.ofInt (-1))).toInt = (-1) from by decide) h17_1
        refine wk_aload_n xd_7af589f9 rfl ?_
        refine wk_iconst xd_0a0a5802 ?_
        refine aw_lload_n xd_ed2f13de rfl ?_
        obtain ⟨xo2, hCo2, eo2⟩ := no_18_2 (w := w) (z := (Int32.ofInt 2)) (show ((Int32.ofInt 2)).toInt = 2 from by decide) (vl_cnt hR).2.2.1 (vl_n2 hR).1 (vl_n2 hR).2 hl hc
        have bo2 := tx_find_b (nm := nm) (b := 10) (k := (h 2).toNat) (c := c)
        refine wk_call (kd := 0) (i := 80) xd_116a4b70 rfl (wk_cal (as := [.inr (.inr (some 18)), .inl (Int32.ofInt 2), .inr (.inl l)]) (t := []) xl_4bb2ecbe rfl xn_63c5ea14 xc_fd3f0af7 rfl rfl xv_2e6e1144 rfl) (cm_C_mono (by omega) hCo2) ?_
        refine wk_iconst xd_f848cdba ?_
        refine wk_icmp xd_0fe497f8 (t := 34) rfl (fun h27_2 => ?_) (fun h27_2 => ?_)
        · have h27_2 := aw_eq_t (a := ((tx_find nm 10 (h 2).toNat c) : Int)) (b := ((-1) : Int)) eo2 (show ((Int32.ofInt (-1))).toInt = (-1) from by decide) h27_2
          refine wk_iconst xd_a0301676 ?_
          exact wk_ireturn xd_1b572ad0 xr_03255aee wk_z0 ⟨_, rfl, .inr ⟨by decide, by unfold ps_kn; omega⟩⟩
        · have h27_2 := aw_eq_f (a := ((tx_find nm 10 (h 2).toNat c) : Int)) (b := ((-1) : Int)) eo2 (show ((Int32.ofInt (-1))).toInt = (-1) from by decide) h27_2
          refine wk_iconst xd_c1f1acc6 ?_
          refine wk_goto xd_40f2d8ac (t := 35) rfl ?_
          exact wk_ireturn xd_1b572ad0 xr_03255aee wk_z1 ⟨_, rfl, .inl ⟨by decide, by unfold ps_kn; omega⟩⟩
  obtain ⟨o, hC, x, rfl, a⟩ := h
  exact ⟨x, hC, a⟩
theorem rd_C_wat {w : cm_W} {t : Nat × Nat × Nat × Int × Nat} (h : rd_C w t) : (tx_isN t ∧ (w.1 2 5).toInt = 2 ∧ (w.1 2 8).toInt = -1 ∧ w.2 2 7 = Int64.ofNat t.2.2.2.2 ∧ t.2.2.2.2 < 32 ^ 7) ∨ (¬ tx_isN t ∧ ¬ ((w.1 2 5).toInt = 2 ∧ (w.1 2 8).toInt = -1)) := by
  rcases rd_C_word h with ⟨a, b, c, _, e, f⟩ | h
  · exact .inl ⟨a, b, c, e, f⟩
  · exact .inr h
theorem cs_look18_0 {w : cm_W} {T : Nat → Int} {n m p : Nat} {f : Nat → Int} {g : Nat → Int64} {a0 b0 : Int} {h : Nat → Int} {nm : Nat → Nat} {z : Int32} (hz : z.toInt = 0) (hM : cs_M w T n m p f g a0 b0) (hR : vl_R w 18 h nm) : ∃ x w', cm_C 3 186 [.inr (.inr (some 2)), .inr (.inr (some 18)), .inl z] w (some (.inl x), w') ∧ cs_V w w' ∧ ((∃ i, ps_look T n m nm 0 (h 0).toNat p = .inr i ∧ x.toInt = i ∧ w' = w) ∨ (∃ k q, ps_look T n m nm 0 (h 0).toNat p = .inl (k, q) ∧ x.toInt = -1 ∧ cs_B w' k q ∧ cs_F w w')) := by
  have h : ∃ o, cm_C (2 + 1) 186 [.inr (.inr (some 2)), .inr (.inr (some 18)), .inl z] w o ∧ (fun o : cm_O => ∃ x w', o = (some (.inl x), w') ∧ cs_V w w' ∧ ((∃ i, ps_look T n m nm 0 (h 0).toNat p = .inr i ∧ x.toInt = i ∧ w' = w) ∨ (∃ k q, ps_look T n m nm 0 (h 0).toNat p = .inl (k, q) ∧ x.toInt = -1 ∧ cs_B w' k q ∧ cs_F w w'))) o := by
    refine wk_entry (by rw [xm_2fb3c1ad]; exact Nat.le_of_ble_eq_true rfl) ?_
    rw [show cm_ent 186 [.inr (.inr (some 2)), .inr (.inr (some 18)), .inl z] = [some (.inr (.inr (some 2))), some (.inr (.inr (some 18))), some (.inl z), none] from by unfold cm_ent; rw [xm_2fb3c1ad]; rfl]
    rcases rd_C_wat hM.1.2.1 with ⟨hni, hkd, hkw, hw, hwl⟩ | ⟨hni, hkd⟩
    · skip
      refine wk_aload_n xd_c5a7e4b1 rfl ?_
      obtain ⟨xn, hCn, hxn⟩ := in_ok (w := w)
      refine wk_call (kd := 0) (i := 91) xd_5bdb9288 rfl (wk_cal (as := [.inr (.inr (some 2))]) (t := []) xl_645059cf rfl xn_64c4bd76 xc_dd7787d2 rfl rfl xv_4dda2033 rfl) (cm_C_mono (by omega) hCn) ?_
      refine wk_if xd_28d10cae (t := 15) rfl (fun h4_0 => ?_) (fun h4_0 => ?_)
      · have h4_0 := aw_ne_t (a := ((xn).toInt : Int)) (b := (0 : Int)) rfl hb_z h4_0
        refine wk_aload_n xd_92849b42 rfl ?_
        refine wk_iload_n xd_f9c20bc2 rfl ?_
        refine wk_aload_n xd_4272611b rfl ?_
        refine aw_getL xf_95dbfd97 xd_9e6b0fb0 ?_
        obtain ⟨xf, hCf, hxf⟩ := no_18_0 (w := w) (z := z) hz (vl_cnt hR).1 (vl_n0 hR).1 (vl_n0 hR).2 hw hwl
        have bf := tx_find_b (nm := nm) (b := 0) (k := (h 0).toNat) (c := (tx_tk T n m p).2.2.2.2)
        refine wk_call (kd := 0) (i := 94) xd_a90cfa53 rfl (wk_cal (as := [.inr (.inr (some 18)), .inl z, .inr (.inl (w.2 2 7))]) (t := []) xl_591f362b rfl xn_63c5ea14 xc_fd3f0af7 rfl rfl xv_2e6e1144 rfl) (cm_C_mono (by omega) hCf) ?_
        refine wk_istore_n xd_0005d670 (by rw [xm_2fb3c1ad]; rfl) rfl ?_
        refine wk_iload_n xd_ea59b267 rfl ?_
        refine wk_iconst xd_06d61f49 ?_
        refine wk_icmp xd_2963720a (t := 36) rfl (fun h27_1 => ?_) (fun h27_1 => ?_)
        · have h27_1 := aw_ne_t (a := ((tx_find nm 0 (h 0).toNat (tx_tk T n m p).2.2.2.2) : Int)) (b := ((-1) : Int)) hxf (show ((Int32.ofInt (-1))).toInt = (-1) from by decide) h27_1
          refine wk_aload_n xd_003a47c0 rfl ?_
          obtain ⟨xg3_, hCg3_, eg3_⟩ := cs_good hM
          refine wk_call (kd := 0) (i := 87) xd_a255f1c7 rfl (wk_cal (as := [.inr (.inr (some 2))]) (t := []) xl_e5b94099 rfl xn_59a494c6 xc_7b6444b6 rfl rfl xv_433dc8e2 rfl) (cm_C_mono (by omega) hCg3_) ?_
          refine wk_if xd_33b9d04a (t := 47) rfl (fun h => absurd (aw_eq_t eg3_ hb_z h) (by omega)) (fun _ => ?_)
          refine wk_iload_n xd_b7ae924d rfl ?_
          refine wk_goto xd_591314a7 (t := 48) rfl ?_
          refine wk_ireturn xd_a96e1be2 xr_f855882b rfl ⟨_, _, rfl, (cs_V_rf w), .inl ⟨_, ?_, hxf, rfl⟩⟩
          exact (if_pos hni).trans (if_pos (by omega))
        · have h27_1 := aw_ne_f (a := ((tx_find nm 0 (h 0).toNat (tx_tk T n m p).2.2.2.2) : Int)) (b := ((-1) : Int)) hxf (show ((Int32.ofInt (-1))).toInt = (-1) from by decide) h27_1
          refine wk_aload_n xd_edf035ba rfl ?_
          refine wk_iconst xd_e00fbab9 ?_
          obtain ⟨wr5_, hCr5_, hVr5_, hBr5_, hFr5_⟩ := cs_ref (k := (Int32.ofInt 3)) (c := 3) hM (by decide) (by decide)
          have hVr5_a := cs_V_tr (cs_V_rf w) hVr5_
          refine wk_call (kd := 0) (i := 80) xd_dd9642ff rfl (wk_cal (as := [.inr (.inr (some 2)), .inl (Int32.ofInt 3)]) (t := []) xl_2de59c4d rfl xn_b5464d7d xc_49a83f99 rfl rfl xv_780065b9 rfl) (cm_C_mono (by omega) hCr5_) ?_
          refine wk_pop xd_62568717 ?_
          refine wk_aload_n xd_003a47c0 rfl ?_
          obtain ⟨xg6_, hCg6_, eg6_⟩ := cs_goodB hBr5_
          refine wk_call (kd := 0) (i := 87) xd_a255f1c7 rfl (wk_cal (as := [.inr (.inr (some 2))]) (t := []) xl_e5b94099 rfl xn_59a494c6 xc_7b6444b6 rfl rfl xv_433dc8e2 rfl) (cm_C_mono (by omega) hCg6_) ?_
          refine wk_if xd_33b9d04a (t := 47) rfl (fun _ => ?_) (fun h => absurd (aw_eq_f eg6_ hb_z h) (by omega))
          refine wk_iconst xd_9c8352f6 ?_
          refine wk_ireturn xd_a96e1be2 xr_f855882b rfl ⟨_, _, rfl, hVr5_a, .inr ⟨3, _, ?_, by decide, hBr5_, hFr5_⟩⟩
          exact (if_pos hni).trans (if_neg (by omega))
      · have h4_0 := aw_ne_f (a := ((xn).toInt : Int)) (b := (0 : Int)) rfl hb_z h4_0
        exfalso
        omega
    · skip
      refine wk_aload_n xd_c5a7e4b1 rfl ?_
      obtain ⟨xn, hCn, hxn⟩ := in_ok (w := w)
      refine wk_call (kd := 0) (i := 91) xd_5bdb9288 rfl (wk_cal (as := [.inr (.inr (some 2))]) (t := []) xl_645059cf rfl xn_64c4bd76 xc_dd7787d2 rfl rfl xv_4dda2033 rfl) (cm_C_mono (by omega) hCn) ?_
      refine wk_if xd_28d10cae (t := 15) rfl (fun h4_7 => ?_) (fun h4_7 => ?_)
      · have h4_7 := aw_ne_t (a := ((xn).toInt : Int)) (b := (0 : Int)) rfl hb_z h4_7
        exfalso
        omega
      · have h4_7 := aw_ne_f (a := ((xn).toInt : Int)) (b := (0 : Int)) rfl hb_z h4_7
        refine wk_aload_n xd_b31e7c1f rfl ?_
        refine wk_iconst xd_61cd3e21 ?_
        obtain ⟨wr9_, hCr9_, hVr9_, hBr9_, hFr9_⟩ := cs_ref (k := (Int32.ofInt 1)) (c := 1) hM (by decide) (by decide)
        have hVr9_a := cs_V_tr (cs_V_rf w) hVr9_
        refine wk_call (kd := 0) (i := 80) xd_9591769c rfl (wk_cal (as := [.inr (.inr (some 2)), .inl (Int32.ofInt 1)]) (t := []) xl_2de59c4d rfl xn_b5464d7d xc_49a83f99 rfl rfl xv_780065b9 rfl) (cm_C_mono (by omega) hCr9_) ?_
        refine wk_pop xd_471090df ?_
        refine wk_iconst xd_aab72844 ?_
        refine wk_ireturn xd_d5ece1ef xr_f855882b rfl ⟨_, _, rfl, hVr9_a, .inr ⟨1, _, ?_, by decide, hBr9_, hFr9_⟩⟩
        exact if_neg hni
  obtain ⟨o, hC, x, w', rfl, a⟩ := h
  exact ⟨x, w', hC, a⟩
theorem cs_look18_0B {w : cm_W} {t : Nat × Nat × Nat × Int × Nat} {k q : Nat} {h : Nat → Int} {nm : Nat → Nat} {z : Int32} (hz : z.toInt = 0) (hB : cs_B w k q) (hC0 : rd_C w t) (hR : vl_R w 18 h nm) : ∃ x, cm_C 3 186 [.inr (.inr (some 2)), .inr (.inr (some 18)), .inl z] w (some (.inl x), w) ∧ x.toInt = -1 := by
  have h : ∃ o, cm_C (2 + 1) 186 [.inr (.inr (some 2)), .inr (.inr (some 18)), .inl z] w o ∧ (fun o : cm_O => ∃ x, o = (some (.inl x), w) ∧ x.toInt = -1) o := by
    refine wk_entry (by rw [xm_2fb3c1ad]; exact Nat.le_of_ble_eq_true rfl) ?_
    rw [show cm_ent 186 [.inr (.inr (some 2)), .inr (.inr (some 18)), .inl z] = [some (.inr (.inr (some 2))), some (.inr (.inr (some 18))), some (.inl z), none] from by unfold cm_ent; rw [xm_2fb3c1ad]; rfl]
    rcases rd_C_wat hC0 with ⟨hni, hkd, hkw, hw, hwl⟩ | ⟨hni, hkd⟩
    · skip
      refine wk_aload_n xd_c5a7e4b1 rfl ?_
      obtain ⟨xn, hCn, hxn⟩ := in_ok (w := w)
      refine wk_call (kd := 0) (i := 91) xd_5bdb9288 rfl (wk_cal (as := [.inr (.inr (some 2))]) (t := []) xl_645059cf rfl xn_64c4bd76 xc_dd7787d2 rfl rfl xv_4dda2033 rfl) (cm_C_mono (by omega) hCn) ?_
      refine wk_if xd_28d10cae (t := 15) rfl (fun h4_0 => ?_) (fun h4_0 => ?_)
      · have h4_0 := aw_ne_t (a := ((xn).toInt : Int)) (b := (0 : Int)) rfl hb_z h4_0
        refine wk_aload_n xd_92849b42 rfl ?_
        refine wk_iload_n xd_f9c20bc2 rfl ?_
        refine wk_aload_n xd_4272611b rfl ?_
        refine aw_getL xf_95dbfd97 xd_9e6b0fb0 ?_
        obtain ⟨xf, hCf, hxf⟩ := no_18_0 (w := w) (z := z) hz (vl_cnt hR).1 (vl_n0 hR).1 (vl_n0 hR).2 hw hwl
        refine wk_call (kd := 0) (i := 94) xd_a90cfa53 rfl (wk_cal (as := [.inr (.inr (some 18)), .inl z, .inr (.inl (w.2 2 7))]) (t := []) xl_591f362b rfl xn_63c5ea14 xc_fd3f0af7 rfl rfl xv_2e6e1144 rfl) (cm_C_mono (by omega) hCf) ?_
        refine wk_istore_n xd_0005d670 (by rw [xm_2fb3c1ad]; rfl) rfl ?_
        refine wk_iload_n xd_ea59b267 rfl ?_
        refine wk_iconst xd_06d61f49 ?_
        refine wk_icmp xd_2963720a (t := 36) rfl (fun h27_1 => ?_) (fun h27_1 => ?_)
        · have h27_1 := aw_ne_t (a := ((xf).toInt : Int)) (b := ((-1) : Int)) rfl (show ((Int32.ofInt (-1))).toInt = (-1) from by decide) h27_1
          refine wk_aload_n xd_003a47c0 rfl ?_
          obtain ⟨xg3_, hCg3_, eg3_⟩ := cs_goodB hB
          refine wk_call (kd := 0) (i := 87) xd_a255f1c7 rfl (wk_cal (as := [.inr (.inr (some 2))]) (t := []) xl_e5b94099 rfl xn_59a494c6 xc_7b6444b6 rfl rfl xv_433dc8e2 rfl) (cm_C_mono (by omega) hCg3_) ?_
          refine wk_if xd_33b9d04a (t := 47) rfl (fun _ => ?_) (fun h => absurd (aw_eq_f eg3_ hb_z h) (by omega))
          refine wk_iconst xd_9c8352f6 ?_
          exact wk_ireturn xd_a96e1be2 xr_f855882b rfl ⟨_, rfl, by decide⟩
        · have h27_1 := aw_ne_f (a := ((xf).toInt : Int)) (b := ((-1) : Int)) rfl (show ((Int32.ofInt (-1))).toInt = (-1) from by decide) h27_1
          refine wk_aload_n xd_edf035ba rfl ?_
          refine wk_iconst xd_e00fbab9 ?_
          refine wk_call (kd := 0) (i := 80) xd_dd9642ff rfl (wk_cal (as := [.inr (.inr (some 2)), .inl (Int32.ofInt 3)]) (t := []) xl_2de59c4d rfl xn_b5464d7d xc_49a83f99 rfl rfl xv_780065b9 rfl) (cm_C_mono (by omega) (cs_refB (k := (Int32.ofInt 3)) hB)) ?_
          refine wk_pop xd_62568717 ?_
          refine wk_aload_n xd_003a47c0 rfl ?_
          obtain ⟨xg6_, hCg6_, eg6_⟩ := cs_goodB hB
          refine wk_call (kd := 0) (i := 87) xd_a255f1c7 rfl (wk_cal (as := [.inr (.inr (some 2))]) (t := []) xl_e5b94099 rfl xn_59a494c6 xc_7b6444b6 rfl rfl xv_433dc8e2 rfl) (cm_C_mono (by omega) hCg6_) ?_
          refine wk_if xd_33b9d04a (t := 47) rfl (fun _ => ?_) (fun h => absurd (aw_eq_f eg6_ hb_z h) (by omega))
          refine wk_iconst xd_9c8352f6 ?_
          exact wk_ireturn xd_a96e1be2 xr_f855882b rfl ⟨_, rfl, by decide⟩
      · have h4_0 := aw_ne_f (a := ((xn).toInt : Int)) (b := (0 : Int)) rfl hb_z h4_0
        exfalso
        omega
    · skip
      refine wk_aload_n xd_c5a7e4b1 rfl ?_
      obtain ⟨xn, hCn, hxn⟩ := in_ok (w := w)
      refine wk_call (kd := 0) (i := 91) xd_5bdb9288 rfl (wk_cal (as := [.inr (.inr (some 2))]) (t := []) xl_645059cf rfl xn_64c4bd76 xc_dd7787d2 rfl rfl xv_4dda2033 rfl) (cm_C_mono (by omega) hCn) ?_
      refine wk_if xd_28d10cae (t := 15) rfl (fun h4_7 => ?_) (fun h4_7 => ?_)
      · have h4_7 := aw_ne_t (a := ((xn).toInt : Int)) (b := (0 : Int)) rfl hb_z h4_7
        exfalso
        omega
      · have h4_7 := aw_ne_f (a := ((xn).toInt : Int)) (b := (0 : Int)) rfl hb_z h4_7
        refine wk_aload_n xd_b31e7c1f rfl ?_
        refine wk_iconst xd_61cd3e21 ?_
        refine wk_call (kd := 0) (i := 80) xd_9591769c rfl (wk_cal (as := [.inr (.inr (some 2)), .inl (Int32.ofInt 1)]) (t := []) xl_2de59c4d rfl xn_b5464d7d xc_49a83f99 rfl rfl xv_780065b9 rfl) (cm_C_mono (by omega) (cs_refB (k := (Int32.ofInt 1)) hB)) ?_
        refine wk_pop xd_471090df ?_
        refine wk_iconst xd_aab72844 ?_
        exact wk_ireturn xd_d5ece1ef xr_f855882b rfl ⟨_, rfl, by decide⟩
  obtain ⟨o, hC, x, rfl, a⟩ := h
  exact ⟨x, hC, a⟩
theorem cs_fresh {w : cm_W} {T : Nat → Int} {n m p : Nat} {f : Nat → Int} {g : Nat → Int64} {a0 b0 : Int} {h : Nat → Int} {nm : Nat → Nat} (hM : cs_M w T n m p f g a0 b0) (hQ : ps_Q id f g h nm) : ∃ x w', cm_C 4 240 [.inr (.inr (some 32))] w (some (.inr (.inl x)), w') ∧ cs_V w w' ∧ ((∃ c q, ps_fresh T n m h nm p = .inr (c, q) ∧ c < 32 ^ 7 ∧ x = Int64.ofNat c ∧ cs_M w' T n m q f g a0 b0) ∨ (∃ k q, ps_fresh T n m h nm p = .inl (k, q) ∧ cs_B w' k q ∧ cs_F w w')) := by
  have h : ∃ o, cm_C (3 + 1) 240 [.inr (.inr (some 32))] w o ∧ (fun o : cm_O => ∃ x w', o = (some (.inr (.inl x)), w') ∧ cs_V w w' ∧ ((∃ c q, ps_fresh T n m h nm p = .inr (c, q) ∧ c < 32 ^ 7 ∧ x = Int64.ofNat c ∧ cs_M w' T n m q f g a0 b0) ∨ (∃ k q, ps_fresh T n m h nm p = .inl (k, q) ∧ cs_B w' k q ∧ cs_F w w'))) o := by
    refine wk_entry (by rw [xm_78bd7b48]; exact Nat.le_of_ble_eq_true rfl) ?_
    rw [show cm_ent 240 [.inr (.inr (some 32))] = [some (.inr (.inr (some 32))), none, none] from by unfold cm_ent; rw [xm_78bd7b48]; rfl]
    rcases rd_C_wat hM.1.2.1 with ⟨hni, hkd, hkw, hw, hwl⟩ | ⟨hni, hkd⟩
    · skip
      refine wk_aload_n xd_5b6483e8 rfl ?_
      refine wk_getR xf_dcf1005a xd_64b00086 ?_
      obtain ⟨xn, hCn, hxn⟩ := in_ok (w := w)
      refine wk_call (kd := 0) (i := 162) xd_ae638c6f rfl (wk_cal (as := [.inr (.inr (some 2))]) (t := []) xl_85b7df70 rfl xn_64c4bd76 xc_dd7787d2 rfl rfl xv_4dda2033 rfl) (cm_C_mono (by omega) hCn) ?_
      refine wk_if xd_623820ee (t := 22) rfl (fun h7_0 => ?_) (fun h7_0 => ?_)
      · have h7_0 := aw_ne_t (a := ((xn).toInt : Int)) (b := (0 : Int)) rfl hb_z h7_0
        refine wk_aload_n xd_936aa943 rfl ?_
        refine wk_getR xf_ec263521 xd_677faada ?_
        refine wk_aload_n xd_933608d0 rfl ?_
        refine wk_getR xf_dcf1005a xd_4c7aea93 ?_
        refine aw_getL xf_216651e2 xd_65f51a2f ?_
        obtain ⟨xh, hCh, hxh⟩ := cs_has (w := w) (cs_R hM hQ) hw hwl
        refine wk_call (kd := 0) (i := 169) xd_6294ac23 rfl (wk_cal (as := [.inr (.inr (some 18)), .inr (.inl (w.2 2 7))]) (t := []) xl_adc0173c rfl xn_6e0289e2 xc_6a698a7e rfl rfl xv_16ab1c51 rfl) (cm_C_mono (by omega) hCh) ?_
        refine wk_if xd_bc11b712 (t := 48) rfl (fun h36_1 => ?_) (fun h36_1 => ?_)
        · have h36_1 := aw_eq_t (a := ((xh).toInt : Int)) (b := (0 : Int)) rfl hb_z h36_1
          have hkn : ¬ ps_kn h nm (tx_tk T n m p).2.2.2.2 := hxh.elim (fun z => absurd z.1 (by omega)) (fun z => z.2)
          refine wk_aload_n xd_ce786bdc rfl ?_
          refine wk_getR xf_dcf1005a xd_4591e8db ?_
          obtain ⟨xg3_, hCg3_, eg3_⟩ := cs_good hM
          refine wk_call (kd := 0) (i := 82) xd_7c340c94 rfl (wk_cal (as := [.inr (.inr (some 2))]) (t := []) xl_2521765f rfl xn_59a494c6 xc_7b6444b6 rfl rfl xv_433dc8e2 rfl) (cm_C_mono (by omega) hCg3_) ?_
          refine wk_if xd_52baf88a (t := 62) rfl (fun _ => ?_) (fun h => absurd (aw_ne_f eg3_ hb_z h) (by omega))
          refine wk_aload_n xd_fa6c371c rfl ?_
          refine wk_getR xf_dcf1005a xd_dec13e37 ?_
          refine aw_getL xf_216651e2 xd_55e6b79a ?_
          refine aw_lstore_n xd_875aea65 (by rw [xm_78bd7b48]; rfl) rfl ?_
          refine wk_aload_n xd_96df81d2 rfl ?_
          refine wk_getR xf_dcf1005a xd_a2716236 ?_
          obtain ⟨wn5_, hCn5_, hVn5_, hMn5_⟩ := cs_next hM ⟨by have := hni.1; omega, by have := hni.1; omega⟩
          have hVn5_a := cs_V_tr (cs_V_rf w) hVn5_
          refine wk_call (kd := 0) (i := 72) xd_19ef25d3 rfl (wk_cal (as := [.inr (.inr (some 2))]) (t := []) xl_a3912e49 rfl xn_568f4fa7 xc_1d38a579 rfl rfl xv_65cfb41b rfl) (cm_C_mono (by omega) hCn5_) ?_
          refine aw_lload_n xd_9a2a50b2 rfl ?_
          refine aw_lreturn xd_46b3e0e7 xr_bf5e81c0 ⟨_, _, rfl, hVn5_a, .inl ⟨_, _, ?_, hwl, hw, hMn5_⟩⟩
          exact (if_pos hni).trans (if_neg hkn)
        · have h36_1 := aw_eq_f (a := ((xh).toInt : Int)) (b := (0 : Int)) rfl hb_z h36_1
          have hkn : ps_kn h nm (tx_tk T n m p).2.2.2.2 := hxh.elim (fun z => z.2) (fun z => absurd z.1 (by omega))
          refine wk_aload_n xd_6413b67f rfl ?_
          refine wk_getR xf_dcf1005a xd_16b9b142 ?_
          refine wk_iconst xd_26258cce ?_
          obtain ⟨wr6_, hCr6_, hVr6_, hBr6_, hFr6_⟩ := cs_ref (k := (Int32.ofInt 3)) (c := 3) hM (by decide) (by decide)
          have hVr6_a := cs_V_tr (cs_V_rf w) hVr6_
          refine wk_call (kd := 0) (i := 69) xd_b64bfe14 rfl (wk_cal (as := [.inr (.inr (some 2)), .inl (Int32.ofInt 3)]) (t := []) xl_aa75ac17 rfl xn_b5464d7d xc_49a83f99 rfl rfl xv_780065b9 rfl) (cm_C_mono (by omega) hCr6_) ?_
          refine wk_pop xd_327e944f ?_
          refine wk_aload_n xd_ce786bdc rfl ?_
          refine wk_getR xf_dcf1005a xd_4591e8db ?_
          obtain ⟨xg7_, hCg7_, eg7_⟩ := cs_goodB hBr6_
          refine wk_call (kd := 0) (i := 82) xd_7c340c94 rfl (wk_cal (as := [.inr (.inr (some 2))]) (t := []) xl_2521765f rfl xn_59a494c6 xc_7b6444b6 rfl rfl xv_433dc8e2 rfl) (cm_C_mono (by omega) hCg7_) ?_
          refine wk_if xd_52baf88a (t := 62) rfl (fun h => absurd (aw_ne_t eg7_ hb_z h) (by omega)) (fun _ => ?_)
          refine aw_ldc2 xl_f215ee26 rfl xd_ff11f6f7 ?_
          refine aw_lreturn xd_ebb30ecf xr_bf5e81c0 ⟨_, _, rfl, hVr6_a, .inr ⟨3, _, ?_, hBr6_, hFr6_⟩⟩
          exact (if_pos hni).trans (if_pos hkn)
      · have h7_0 := aw_ne_f (a := ((xn).toInt : Int)) (b := (0 : Int)) rfl hb_z h7_0
        exfalso
        omega
    · skip
      refine wk_aload_n xd_5b6483e8 rfl ?_
      refine wk_getR xf_dcf1005a xd_64b00086 ?_
      obtain ⟨xn, hCn, hxn⟩ := in_ok (w := w)
      refine wk_call (kd := 0) (i := 162) xd_ae638c6f rfl (wk_cal (as := [.inr (.inr (some 2))]) (t := []) xl_85b7df70 rfl xn_64c4bd76 xc_dd7787d2 rfl rfl xv_4dda2033 rfl) (cm_C_mono (by omega) hCn) ?_
      refine wk_if xd_623820ee (t := 22) rfl (fun h7_8 => ?_) (fun h7_8 => ?_)
      · have h7_8 := aw_ne_t (a := ((xn).toInt : Int)) (b := (0 : Int)) rfl hb_z h7_8
        exfalso
        omega
      · have h7_8 := aw_ne_f (a := ((xn).toInt : Int)) (b := (0 : Int)) rfl hb_z h7_8
        refine wk_aload_n xd_26e2d382 rfl ?_
        refine wk_getR xf_dcf1005a xd_c9aa0e90 ?_
        refine wk_iconst xd_a213aaa9 ?_
        obtain ⟨wr10_, hCr10_, hVr10_, hBr10_, hFr10_⟩ := cs_ref (k := (Int32.ofInt 1)) (c := 1) hM (by decide) (by decide)
        have hVr10_a := cs_V_tr (cs_V_rf w) hVr10_
        refine wk_call (kd := 0) (i := 69) xd_bf535689 rfl (wk_cal (as := [.inr (.inr (some 2)), .inl (Int32.ofInt 1)]) (t := []) xl_aa75ac17 rfl xn_b5464d7d xc_49a83f99 rfl rfl xv_780065b9 rfl) (cm_C_mono (by omega) hCr10_) ?_
        refine wk_pop xd_1006c67d ?_
        refine wk_goto xd_0633728f (t := 48) rfl ?_
        refine wk_aload_n xd_ce786bdc rfl ?_
        refine wk_getR xf_dcf1005a xd_4591e8db ?_
        obtain ⟨xg11_, hCg11_, eg11_⟩ := cs_goodB hBr10_
        refine wk_call (kd := 0) (i := 82) xd_7c340c94 rfl (wk_cal (as := [.inr (.inr (some 2))]) (t := []) xl_2521765f rfl xn_59a494c6 xc_7b6444b6 rfl rfl xv_433dc8e2 rfl) (cm_C_mono (by omega) hCg11_) ?_
        refine wk_if xd_52baf88a (t := 62) rfl (fun h => absurd (aw_ne_t eg11_ hb_z h) (by omega)) (fun _ => ?_)
        refine aw_ldc2 xl_f215ee26 rfl xd_ff11f6f7 ?_
        refine aw_lreturn xd_ebb30ecf xr_bf5e81c0 ⟨_, _, rfl, hVr10_a, .inr ⟨1, _, ?_, hBr10_, hFr10_⟩⟩
        exact if_neg hni
  obtain ⟨o, hC, x, w', rfl, a⟩ := h
  exact ⟨x, w', hC, a⟩
theorem ps_look_b {T : Nat → Int} {n m : Nat} {nm : Nat → Nat} {b k p : Nat} {i : Int} (h : ps_look T n m nm b k p = .inr i) : 0 ≤ i ∧ i < k ∧ 1 ≤ (tx_tk T n m p).1 ∧ (tx_tk T n m p).1 ≤ 3 := by
  unfold ps_look at h
  split at h
  · rename_i h1
    split at h
    · rename_i h2
      cases h
      have h3 := tx_find_b (nm := nm) (b := b) (k := k) (c := (tx_tk T n m p).2.2.2.2)
      have h4 := h1.1
      omega
    · cases h
  · cases h
theorem cs_take {w : cm_W} {T : Nat → Int} {n m p : Nat} {f : Nat → Int} {g : Nat → Int64} {a0 b0 : Int} {h : Nat → Int} {nm : Nat → Nat} {z : Int32} (hz : z.toInt = 0) (hM : cs_M w T n m p f g a0 b0) (hQ : ps_Q id f g h nm) : ∃ x w', cm_C 4 188 [.inr (.inr (some 2)), .inr (.inr (some 18)), .inl z] w (some (.inl x), w') ∧ cs_V w w' ∧ ((∃ i, ps_look T n m nm 0 (h 0).toNat p = .inr i ∧ x.toInt = i ∧ cs_M w' T n m (tx_tk T n m p).2.2.1 f g a0 b0) ∨ (∃ k q, ps_look T n m nm 0 (h 0).toNat p = .inl (k, q) ∧ x.toInt = -1 ∧ cs_B w' k q ∧ cs_F w w')) := by
  have h : ∃ o, cm_C (3 + 1) 188 [.inr (.inr (some 2)), .inr (.inr (some 18)), .inl z] w o ∧ (fun o : cm_O => ∃ x w', o = (some (.inl x), w') ∧ cs_V w w' ∧ ((∃ i, ps_look T n m nm 0 (h 0).toNat p = .inr i ∧ x.toInt = i ∧ cs_M w' T n m (tx_tk T n m p).2.2.1 f g a0 b0) ∨ (∃ k q, ps_look T n m nm 0 (h 0).toNat p = .inl (k, q) ∧ x.toInt = -1 ∧ cs_B w' k q ∧ cs_F w w'))) o := by
    refine wk_entry (by rw [xm_90837fcc]; exact Nat.le_of_ble_eq_true rfl) ?_
    rw [show cm_ent 188 [.inr (.inr (some 2)), .inr (.inr (some 18)), .inl z] = [some (.inr (.inr (some 2))), some (.inr (.inr (some 18))), some (.inl z), none] from by unfold cm_ent; rw [xm_90837fcc]; rfl]
    refine wk_aload_n xd_af5014bc rfl ?_
    refine wk_aload_n xd_0943d7d8 rfl ?_
    refine wk_iload_n xd_62054758 rfl ?_
    obtain ⟨xl, wl, hCl, hVl, hl⟩ := cs_look18_0 (z := z) hz hM (cs_R hM hQ)
    refine wk_call (kd := 0) (i := 100) xd_f311a08d rfl (wk_cal (as := [.inr (.inr (some 2)), .inr (.inr (some 18)), .inl z]) (t := []) xl_65deb051 rfl xn_cd6aa68a xc_ec32c43f rfl rfl xv_5ef21940 rfl) (cm_C_mono (by omega) hCl) ?_
    rcases hl with ⟨i, el, hx, rfl⟩ | ⟨k, q, el, hx, hB, hF⟩
    · have hi := ps_look_b el
      refine wk_istore_n xd_95948f65 (by rw [xm_90837fcc]; rfl) rfl ?_
      refine wk_iload_n xd_c44a25af rfl ?_
      refine wk_iconst xd_bc28b3b7 ?_
      refine wk_icmp xd_0df7f1ee (t := 16) rfl (fun h9_0 => ?_) (fun h9_0 => ?_)
      · have h9_0 := aw_eq_t (a := (i : Int)) (b := ((-1) : Int)) hx (show ((Int32.ofInt (-1))).toInt = (-1) from by decide) h9_0
        exfalso
        omega
      · have h9_0 := aw_eq_f (a := (i : Int)) (b := ((-1) : Int)) hx (show ((Int32.ofInt (-1))).toInt = (-1) from by decide) h9_0
        refine wk_aload_n xd_a786a111 rfl ?_
        obtain ⟨wn2_, hCn2_, hVn2_, hMn2_⟩ := cs_next hM hi.2.2
        have hVn2_a := cs_V_tr hVl hVn2_
        refine wk_call (kd := 0) (i := 55) xd_ac2985be rfl (wk_cal (as := [.inr (.inr (some 2))]) (t := []) xl_1a525883 rfl xn_568f4fa7 xc_1d38a579 rfl rfl xv_65cfb41b rfl) (cm_C_mono (by omega) hCn2_) ?_
        refine wk_iload_n xd_ba79a93f rfl ?_
        exact wk_ireturn xd_e9229c1d xr_02b3849b rfl ⟨_, _, rfl, hVn2_a, .inl ⟨_, el, hx, hMn2_⟩⟩
    · skip
      refine wk_istore_n xd_95948f65 (by rw [xm_90837fcc]; rfl) rfl ?_
      refine wk_iload_n xd_c44a25af rfl ?_
      refine wk_iconst xd_bc28b3b7 ?_
      refine wk_icmp xd_0df7f1ee (t := 16) rfl (fun _ => ?_) (fun h => absurd (aw_eq_f hx (show ((Int32.ofInt (-1))).toInt = (-1) from by decide) h) (by omega))
      refine wk_iload_n xd_ba79a93f rfl ?_
      exact wk_ireturn xd_e9229c1d xr_02b3849b rfl ⟨_, _, rfl, hVl, .inr ⟨_, _, el, hx, hB, hF⟩⟩
  obtain ⟨o, hC, x, w', rfl, a⟩ := h
  exact ⟨x, w', hC, a⟩
theorem hd_lp {w : cm_W} {h : Nat → Int} {k : Nat} {va vb : Int32} {u v : Int} (hu : va.toInt = u) (hv : vb.toInt = v) (hk : (w.1 18 6).toInt = (k : Int)) (hk10 : k ≤ 10) (hd : ∀ i, i < k → (w.1 28 i).toInt = h (39 + i) ∧ (w.1 29 i).toInt = h (49 + i)) (Q : cm_O → Prop) (hQ : ∀ x : Int32, ((x.toInt = 1 ∧ ∃ i, i < k ∧ h (39 + i) = u ∧ h (49 + i) = v) ∨ (x.toInt = 0 ∧ ¬ ∃ i, i < k ∧ h (39 + i) = u ∧ h (49 + i) = v)) → Q (some (.inl x), w)) : ∀ (f i : Nat) (vi : Int32), f + i = k → vi.toInt = (i : Int) → (∀ q, q < i → ¬ (h (39 + q) = u ∧ h (49 + q) = v)) → cm_X (cm_C 0) 229 2 [some (.inr (.inr (some 18))), some (.inl va), some (.inl vb), some (.inl vi)] [] w Q := by
  intro f
  induction f with
  | zero =>
    intro i vi hi hvi hno
    refine wk_iload_n xd_a53c2f50 rfl ?_
    refine wk_aload_n xd_23ec6c39 rfl ?_
    refine wk_getI xf_cef68a7d xd_11a39464 ?_
    refine wk_icmp xd_60409774 (t := 38) rfl (fun h7_0 => ?_) (fun h7_0 => ?_)
    · have h7_0 := aw_ge_t (a := ((i : Int) : Int)) (b := ((k : Int) : Int)) hvi (show ((w.1 18 6)).toInt = ((k : Int) : Int) from hk) h7_0
      refine wk_iconst xd_996a331c ?_
      exact wk_ireturn xd_42c18233 xr_8dc168d2 wk_z0 (hQ _ (.inr ⟨by decide, fun ⟨q, a, b, c⟩ => hno q (by omega) ⟨b, c⟩⟩))
    · have h7_0 := aw_ge_f (a := ((i : Int) : Int)) (b := ((k : Int) : Int)) hvi (show ((w.1 18 6)).toInt = ((k : Int) : Int) from hk) h7_0
      exfalso
      omega
  | succ f ih =>
    intro i vi hi hvi hno
    refine wk_iload_n xd_a53c2f50 rfl ?_
    refine wk_aload_n xd_23ec6c39 rfl ?_
    refine wk_getI xf_cef68a7d xd_11a39464 ?_
    refine wk_icmp xd_60409774 (t := 38) rfl (fun h7_1 => ?_) (fun h7_1 => ?_)
    · have h7_1 := aw_ge_t (a := ((i : Int) : Int)) (b := ((k : Int) : Int)) hvi (show ((w.1 18 6)).toInt = ((k : Int) : Int) from hk) h7_1
      exfalso
      omega
    · have h7_1 := aw_ge_f (a := ((i : Int) : Int)) (b := ((k : Int) : Int)) hvi (show ((w.1 18 6)).toInt = ((k : Int) : Int) from hk) h7_1
      refine wk_aload_n xd_8f501007 rfl ?_
      refine wk_getR xf_0659a829 xd_2c7a8fca ?_
      refine wk_iload_n xd_92af1829 rfl ?_
      refine aw_iaload (i := i) xf_dd69569e hvi (by omega) (by omega) xd_ab0c4e20 ?_
      refine wk_iload_n xd_05f998a0 rfl ?_
      refine wk_icmp xd_877bcc91 (t := 32) rfl (fun h17_2 => ?_) (fun h17_2 => ?_)
      · have h17_2 := aw_ne_t (a := ((h (39 + i)) : Int)) (b := (u : Int)) (show ((w.1 28 i)).toInt = ((h (39 + i)) : Int) from (hd i (by omega)).1) hu h17_2
        refine aw_iinc (a := ((i : Int) : Int)) (b := (1 : Int)) (e := ((i : Int) + 1 : Int)) xd_a708fc91 (by rw [xm_3d906f87]; rfl) rfl rfl hvi (show ((Int32.ofInt 1)).toInt = 1 from by decide) (by omega) (by omega) (by omega) (fun v4_ p4_ => ?_)
        refine wk_goto xd_4736119a (t := 2) rfl ?_
        refine ih (i + 1) _ (by omega) (by omega) (fun q hq => ?_)
        by_cases e : q = i
        · rw [e]
          omega
        · exact hno q (by omega)
      · have h17_2 := aw_ne_f (a := ((h (39 + i)) : Int)) (b := (u : Int)) (show ((w.1 28 i)).toInt = ((h (39 + i)) : Int) from (hd i (by omega)).1) hu h17_2
        refine wk_aload_n xd_d74eb92f rfl ?_
        refine wk_getR xf_2a8c83d2 xd_998d18e2 ?_
        refine wk_iload_n xd_cab1b101 rfl ?_
        refine aw_iaload (i := i) xf_4066b7e8 hvi (by omega) (by omega) xd_d012ccc3 ?_
        refine wk_iload_n xd_1a474b58 rfl ?_
        refine wk_icmp xd_33ddcbe0 (t := 32) rfl (fun h27_4 => ?_) (fun h27_4 => ?_)
        · have h27_4 := aw_ne_t (a := ((h (49 + i)) : Int)) (b := (v : Int)) (show ((w.1 29 i)).toInt = ((h (49 + i)) : Int) from (hd i (by omega)).2) hv h27_4
          refine aw_iinc (a := ((i : Int) : Int)) (b := (1 : Int)) (e := ((i : Int) + 1 : Int)) xd_a708fc91 (by rw [xm_3d906f87]; rfl) rfl rfl hvi (show ((Int32.ofInt 1)).toInt = 1 from by decide) (by omega) (by omega) (by omega) (fun v6_ p6_ => ?_)
          refine wk_goto xd_4736119a (t := 2) rfl ?_
          refine ih (i + 1) _ (by omega) (by omega) (fun q hq => ?_)
          by_cases e : q = i
          · rw [e]
            omega
          · exact hno q (by omega)
        · have h27_4 := aw_ne_f (a := ((h (49 + i)) : Int)) (b := (v : Int)) (show ((w.1 29 i)).toInt = ((h (49 + i)) : Int) from (hd i (by omega)).2) hv h27_4
          refine wk_iconst xd_1d493cac ?_
          exact wk_ireturn xd_67338b45 xr_8dc168d2 wk_z1 (hQ _ (.inl ⟨by decide, i, by omega, by omega, by omega⟩))
theorem hd_ok {w : cm_W} {h : Nat → Int} {k : Nat} {va vb : Int32} {u v : Int} (hu : va.toInt = u) (hv : vb.toInt = v) (hk : (w.1 18 6).toInt = (k : Int)) (hk10 : k ≤ 10) (hd : ∀ i, i < k → (w.1 28 i).toInt = h (39 + i) ∧ (w.1 29 i).toInt = h (49 + i)) : ∃ x, cm_C 1 229 [.inr (.inr (some 18)), .inl va, .inl vb] w (some (.inl x), w) ∧ ((x.toInt = 1 ∧ ∃ i, i < k ∧ h (39 + i) = u ∧ h (49 + i) = v) ∨ (x.toInt = 0 ∧ ¬ ∃ i, i < k ∧ h (39 + i) = u ∧ h (49 + i) = v)) := by
  have h : ∃ o, cm_C (0 + 1) 229 [.inr (.inr (some 18)), .inl va, .inl vb] w o ∧ (fun o : cm_O => ∃ x, o = (some (.inl x), w) ∧ ((x.toInt = 1 ∧ ∃ i, i < k ∧ h (39 + i) = u ∧ h (49 + i) = v) ∨ (x.toInt = 0 ∧ ¬ ∃ i, i < k ∧ h (39 + i) = u ∧ h (49 + i) = v))) o := by
    refine wk_entry (by rw [xm_3d906f87]; exact Nat.le_of_ble_eq_true rfl) ?_
    rw [show cm_ent 229 [.inr (.inr (some 18)), .inl va, .inl vb] = [some (.inr (.inr (some 18))), some (.inl va), some (.inl vb), none] from by unfold cm_ent; rw [xm_3d906f87]; rfl]
    refine wk_iconst xd_f442159e ?_
    refine wk_istore_n xd_61ccdaed (by rw [xm_3d906f87]; rfl) rfl ?_
    exact hd_lp hu hv hk hk10 hd _ (fun x hx => ⟨x, rfl, hx⟩) k 0 _ (by omega) (by decide) (fun q hq => absurd hq (Nat.not_lt_zero q))
  obtain ⟨o, hC, x, rfl, a⟩ := h
  exact ⟨x, hC, a⟩
theorem cs_debts {w : cm_W} {T : Nat → Int} {n m p : Nat} {f : Nat → Int} {g : Nat → Int64} {a0 b0 : Int} {h : Nat → Int} {nm : Nat → Nat} (hM : cs_M w T n m p f g a0 b0) (hQ : ps_Q id f g h nm) : ∀ i, i < (h 3).toNat → (w.1 28 i).toInt = h (39 + i) ∧ (w.1 29 i).toInt = h (49 + i) := by
  intro i hi
  have hR := cs_R hM hQ
  have hb := hR.2.2
  unfold ps_bd at hb
  have g1 := hR.1 (39 + i) (by unfold ps_lv; omega)
  have g2 := hR.1 (49 + i) (by unfold ps_lv; omega)
  have q1 := ((vl_r10 18 (i := i) (by omega)) (39 + i)).mpr rfl
  have q2 := ((vl_r11 18 (i := i) (by omega)) (49 + i)).mpr rfl
  unfold vl_H at g1 g2
  rw [q1.1, q1.2] at g1
  rw [q2.1, q2.2] at g2
  exact ⟨g1, g2⟩

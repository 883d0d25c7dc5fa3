set_option maxRecDepth 100000 in
theorem xd_748035f1 : decode (ia_code 95) 4 = .ok (.iload_n 2, 1) := fdd_d (by decide +kernel)
set_option maxRecDepth 100000 in
theorem xd_11222a3b : decode (ia_code 95) 5 = .ok (.ifCond .eq 15, 3) := fdd_d (by decide +kernel)
set_option maxRecDepth 100000 in
theorem xd_6a4ced63 : decode (ia_code 95) 20 = .ok (.iload_n 1, 1) := fdd_d (by decide +kernel)
set_option maxRecDepth 100000 in
theorem xd_bd2b82c4 : decode (ia_code 95) 21 = .ok (.ireturn, 1) := fdd_d (by decide +kernel)
set_option maxRecDepth 100000 in
theorem xr_b413192e : ia_ret 95 = some .int := by decide +kernel
set_option maxRecDepth 100000 in
theorem xd_bedf6ffb : decode (ia_code 95) 8 = .ok (.iinc 1 1, 3) := fdd_d (by decide +kernel)
set_option maxRecDepth 100000 in
theorem xm_dd4a0950 : ia_maxL 95 = 3 := by decide +kernel
set_option maxRecDepth 100000 in
theorem xd_ee81d44f : decode (ia_code 95) 11 = .ok (.iload_n 2, 1) := fdd_d (by decide +kernel)
set_option maxRecDepth 100000 in
theorem xd_9864ed72 : decode (ia_code 95) 12 = .ok (.iload_n 2, 1) := fdd_d (by decide +kernel)
set_option maxRecDepth 100000 in
theorem xd_c8b1036e : decode (ia_code 95) 13 = .ok (.iconst 1, 1) := fdd_d (by decide +kernel)
set_option maxRecDepth 100000 in
theorem xd_69e785f6 : decode (ia_code 95) 14 = .ok (.isub, 1) := fdd_d (by decide +kernel)
set_option maxRecDepth 100000 in
theorem xd_90a5b908 : decode (ia_code 95) 15 = .ok (.iand, 1) := fdd_d (by decide +kernel)
set_option maxRecDepth 100000 in
theorem xd_73b50ea9 : decode (ia_code 95) 16 = .ok (.istore_n 2, 1) := fdd_d (by decide +kernel)
set_option maxRecDepth 100000 in
theorem xd_1e26289d : decode (ia_code 95) 17 = .ok (.goto (-13), 3) := fdd_d (by decide +kernel)
set_option maxRecDepth 100000 in
theorem xd_397278df : decode (ia_code 95) 0 = .ok (.iconst 0, 1) := fdd_d (by decide +kernel)
set_option maxRecDepth 100000 in
theorem xd_c16d271c : decode (ia_code 95) 1 = .ok (.istore_n 1, 1) := fdd_d (by decide +kernel)
set_option maxRecDepth 100000 in
theorem xd_e38a14eb : decode (ia_code 95) 2 = .ok (.iload_n 0, 1) := fdd_d (by decide +kernel)
set_option maxRecDepth 100000 in
theorem xd_5ff691c3 : decode (ia_code 95) 3 = .ok (.istore_n 2, 1) := fdd_d (by decide +kernel)
set_option maxRecDepth 100000 in
theorem xd_792689d7 : decode (ia_code 287) 19 = .ok (.iload_n 3, 1) := fdd_d (by decide +kernel)
set_option maxRecDepth 100000 in
theorem xd_a75120b0 : decode (ia_code 287) 20 = .ok (.aload_n 0, 1) := fdd_d (by decide +kernel)
set_option maxRecDepth 100000 in
theorem xd_0e0243b0 : decode (ia_code 287) 21 = .ok (.getfield 33, 3) := fdd_d (by decide +kernel)
set_option maxRecDepth 100000 in
theorem xf_eb9215a3 : wk_gf 287 33 184 6 (186 + 3) = true := by decide +kernel
set_option maxRecDepth 100000 in
theorem xd_aff6557d : decode (ia_code 287) 24 = .ok (.iconst 1, 1) := fdd_d (by decide +kernel)
set_option maxRecDepth 100000 in
theorem xd_0e4f17c7 : decode (ia_code 287) 25 = .ok (.iaload, 1) := fdd_d (by decide +kernel)
set_option maxRecDepth 100000 in
theorem xd_bc13712c : decode (ia_code 287) 26 = .ok (.if_icmp .ge 40, 3) := fdd_d (by decide +kernel)
set_option maxRecDepth 100000 in
theorem xd_50a881f5 : decode (ia_code 287) 66 = .ok (.return_, 1) := fdd_d (by decide +kernel)
set_option maxRecDepth 100000 in
theorem xr_b12285bd : ia_ret 287 = none := by decide +kernel
set_option maxRecDepth 100000 in
theorem xd_3c9b8942 : decode (ia_code 287) 29 = .ok (.aload_n 0, 1) := fdd_d (by decide +kernel)
set_option maxRecDepth 100000 in
theorem xd_6b89d58b : decode (ia_code 287) 30 = .ok (.getfield 68, 3) := fdd_d (by decide +kernel)
set_option maxRecDepth 100000 in
theorem xf_79c7b550 : wk_gf 287 68 184 31 (195 + 3) = true := by decide +kernel
set_option maxRecDepth 100000 in
theorem xd_4d32d517 : decode (ia_code 287) 33 = .ok (.iload_n 3, 1) := fdd_d (by decide +kernel)
set_option maxRecDepth 100000 in
theorem xd_f4f2af1f : decode (ia_code 287) 34 = .ok (.iaload, 1) := fdd_d (by decide +kernel)
set_option maxRecDepth 100000 in
theorem xf_058027d6 : wk_ar 195 50 4 = true := by decide +kernel
set_option maxRecDepth 100000 in
theorem xl_a01c8a3b : ia_pl (ia_cls 287) 319 = some (1, 95, 1, 0, 1872) := by decide +kernel
set_option maxRecDepth 100000 in
theorem xn_52595bb2 : ia_na 95 = 1 := by decide +kernel
set_option maxRecDepth 100000 in
theorem xc_334ff9e4 : ia_mc 95 = 0 ∧ ia_ms 95 = 0 := ⟨by decide +kernel, by decide +kernel⟩
set_option maxRecDepth 100000 in
theorem xd_35a77d62 : decode (ia_code 287) 35 = .ok (.invokestatic 319, 3) := fdd_d (by decide +kernel)
set_option maxRecDepth 100000 in
theorem xd_060e86bc : decode (ia_code 287) 38 = .ok (.iload_n 2, 1) := fdd_d (by decide +kernel)
set_option maxRecDepth 100000 in
theorem xd_5f4b461e : decode (ia_code 287) 39 = .ok (.if_icmp .gt 6, 3) := fdd_d (by decide +kernel)
set_option maxRecDepth 100000 in
theorem xd_8c4339a7 : decode (ia_code 287) 45 = .ok (.aload_n 0, 1) := fdd_d (by decide +kernel)
set_option maxRecDepth 100000 in
theorem xd_d891c20b : decode (ia_code 287) 46 = .ok (.getfield 68, 3) := fdd_d (by decide +kernel)
set_option maxRecDepth 100000 in
theorem xd_910572af : decode (ia_code 287) 49 = .ok (.iload_n 3, 1) := fdd_d (by decide +kernel)
set_option maxRecDepth 100000 in
theorem xd_4c224180 : decode (ia_code 287) 50 = .ok (.iaload, 1) := fdd_d (by decide +kernel)
set_option maxRecDepth 100000 in
theorem xd_e27483a4 : decode (ia_code 287) 51 = .ok (.invokestatic 319, 3) := fdd_d (by decide +kernel)
set_option maxRecDepth 100000 in
theorem xd_b621db6d : decode (ia_code 287) 54 = .ok (.istore_n 2, 1) := fdd_d (by decide +kernel)
set_option maxRecDepth 100000 in
theorem xm_233bf280 : ia_maxL 287 = 4 := by decide +kernel
set_option maxRecDepth 100000 in
theorem xd_0d665c80 : decode (ia_code 287) 55 = .ok (.aload_n 0, 1) := fdd_d (by decide +kernel)
set_option maxRecDepth 100000 in
theorem xd_6620cc00 : decode (ia_code 287) 56 = .ok (.iload_n 3, 1) := fdd_d (by decide +kernel)
set_option maxRecDepth 100000 in
theorem xd_f82eb7c7 : decode (ia_code 287) 57 = .ok (.putfield 360, 3) := fdd_d (by decide +kernel)
set_option maxRecDepth 100000 in
theorem xf_bfce513b : wk_pf 287 360 184 29 0 = true := by decide +kernel
set_option maxRecDepth 100000 in
theorem xd_671a6e53 : decode (ia_code 287) 60 = .ok (.iinc 3 1, 3) := fdd_d (by decide +kernel)
set_option maxRecDepth 100000 in
theorem xd_115f0645 : decode (ia_code 287) 63 = .ok (.goto (-44), 3) := fdd_d (by decide +kernel)
set_option maxRecDepth 100000 in
theorem xd_194f120e : decode (ia_code 287) 42 = .ok (.goto 18, 3) := fdd_d (by decide +kernel)
set_option maxRecDepth 100000 in
theorem xd_20644501 : decode (ia_code 287) 0 = .ok (.aload_n 0, 1) := fdd_d (by decide +kernel)
set_option maxRecDepth 100000 in
theorem xd_d9b9c12c : decode (ia_code 287) 1 = .ok (.iconst 1, 1) := fdd_d (by decide +kernel)
set_option maxRecDepth 100000 in
theorem xd_ace30617 : decode (ia_code 287) 2 = .ok (.putfield 353, 3) := fdd_d (by decide +kernel)
set_option maxRecDepth 100000 in
theorem xf_f7e32349 : wk_pf 287 353 184 30 1 = true := by decide +kernel
set_option maxRecDepth 100000 in
theorem xd_bb4b0e46 : decode (ia_code 287) 5 = .ok (.aload_n 0, 1) := fdd_d (by decide +kernel)
set_option maxRecDepth 100000 in
theorem xd_aacdcda6 : decode (ia_code 287) 6 = .ok (.iload_n 1, 1) := fdd_d (by decide +kernel)
set_option maxRecDepth 100000 in
theorem xd_94ea909e : decode (ia_code 287) 7 = .ok (.putfield 357, 3) := fdd_d (by decide +kernel)
set_option maxRecDepth 100000 in
theorem xf_9a189b2c : wk_pf 287 357 184 28 0 = true := by decide +kernel
set_option maxRecDepth 100000 in
theorem xd_ff4f8998 : decode (ia_code 287) 10 = .ok (.aload_n 0, 1) := fdd_d (by decide +kernel)
set_option maxRecDepth 100000 in
theorem xd_4afeee4e : decode (ia_code 287) 11 = .ok (.iconst (-1), 1) := fdd_d (by decide +kernel)
set_option maxRecDepth 100000 in
theorem xd_54e6eccb : decode (ia_code 287) 12 = .ok (.putfield 360, 3) := fdd_d (by decide +kernel)
set_option maxRecDepth 100000 in
theorem xd_f35b2130 : decode (ia_code 287) 15 = .ok (.iconst 0, 1) := fdd_d (by decide +kernel)
set_option maxRecDepth 100000 in
theorem xd_94a75d99 : decode (ia_code 287) 16 = .ok (.istore_n 2, 1) := fdd_d (by decide +kernel)
set_option maxRecDepth 100000 in
theorem xd_dd0be8b0 : decode (ia_code 287) 17 = .ok (.iconst 0, 1) := fdd_d (by decide +kernel)
set_option maxRecDepth 100000 in
theorem xd_cbf71ac7 : decode (ia_code 287) 18 = .ok (.istore_n 3, 1) := fdd_d (by decide +kernel)
set_option maxRecDepth 100000 in
theorem xm_3b0ee560 : ia_maxL 277 = 2 := by decide +kernel
set_option maxRecDepth 100000 in
theorem xd_3033d50d : decode (ia_code 277) 0 = .ok (.aload_n 0, 1) := fdd_d (by decide +kernel)
set_option maxRecDepth 100000 in
theorem xd_6d567faf : decode (ia_code 277) 1 = .ok (.getfield 14, 3) := fdd_d (by decide +kernel)
set_option maxRecDepth 100000 in
theorem xf_1fae7998 : wk_gf 277 14 184 1 (185 + 3) = true := by decide +kernel
set_option maxRecDepth 100000 in
theorem xd_570c8e43 : decode (ia_code 277) 4 = .ok (.iload_n 1, 1) := fdd_d (by decide +kernel)
set_option maxRecDepth 100000 in
theorem xd_e20eea6b : decode (ia_code 277) 5 = .ok (.baload, 1) := fdd_d (by decide +kernel)
set_option maxRecDepth 100000 in
theorem xd_3d0a6619 : decode (ia_code 277) 6 = .ok (.sipush 255, 3) := fdd_d (by decide +kernel)
set_option maxRecDepth 100000 in
theorem xd_70673b63 : decode (ia_code 277) 9 = .ok (.iand, 1) := fdd_d (by decide +kernel)
set_option maxRecDepth 100000 in
theorem xd_5ce00e03 : decode (ia_code 277) 10 = .ok (.ireturn, 1) := fdd_d (by decide +kernel)
set_option maxRecDepth 100000 in
theorem xr_622a8f21 : ia_ret 277 = some .int := by decide +kernel
set_option maxRecDepth 100000 in
theorem xd_973e1355 : decode (ia_code 92) 122 = .ok (.iload 5, 2) := fdd_d (by decide +kernel)
set_option maxRecDepth 100000 in
theorem xd_c096671c : decode (ia_code 92) 124 = .ok (.iconst 4, 1) := fdd_d (by decide +kernel)
set_option maxRecDepth 100000 in
theorem xd_1d5e4a5e : decode (ia_code 92) 125 = .ok (.if_icmp .ge 47, 3) := fdd_d (by decide +kernel)
set_option maxRecDepth 100000 in
theorem xd_d05c6a64 : decode (ia_code 92) 128 = .ok (.iload_n 3, 1) := fdd_d (by decide +kernel)
set_option maxRecDepth 100000 in
theorem xd_bd1c437c : decode (ia_code 92) 129 = .ok (.iconst 2, 1) := fdd_d (by decide +kernel)
set_option maxRecDepth 100000 in
theorem xd_64d276e8 : decode (ia_code 92) 130 = .ok (.iload 5, 2) := fdd_d (by decide +kernel)
set_option maxRecDepth 100000 in
theorem xd_ae95564b : decode (ia_code 92) 132 = .ok (.imul, 1) := fdd_d (by decide +kernel)
set_option maxRecDepth 100000 in
theorem xd_16be3f9f : decode (ia_code 92) 133 = .ok (.ishr, 1) := fdd_d (by decide +kernel)
set_option maxRecDepth 100000 in
theorem xd_e9c551d8 : decode (ia_code 92) 134 = .ok (.iconst 3, 1) := fdd_d (by decide +kernel)
set_option maxRecDepth 100000 in
theorem xd_d17a8fc2 : decode (ia_code 92) 135 = .ok (.iand, 1) := fdd_d (by decide +kernel)
set_option maxRecDepth 100000 in
theorem xd_4f987998 : decode (ia_code 92) 136 = .ok (.istore 6, 2) := fdd_d (by decide +kernel)
set_option maxRecDepth 100000 in
theorem xm_68071159 : ia_maxL 92 = 7 := by decide +kernel
set_option maxRecDepth 100000 in
theorem xd_4cdaa6fe : decode (ia_code 92) 138 = .ok (.aload_n 0, 1) := fdd_d (by decide +kernel)
set_option maxRecDepth 100000 in
theorem xd_433e4c07 : decode (ia_code 92) 139 = .ok (.getfield 68, 3) := fdd_d (by decide +kernel)
set_option maxRecDepth 100000 in
theorem xf_158968c2 : wk_gf 92 68 184 31 (195 + 3) = true := by decide +kernel
set_option maxRecDepth 100000 in
theorem xd_e5cf49d5 : decode (ia_code 92) 142 = .ok (.iload 5, 2) := fdd_d (by decide +kernel)
set_option maxRecDepth 100000 in
theorem xd_f20d46e4 : decode (ia_code 92) 144 = .ok (.dup2, 1) := fdd_d (by decide +kernel)
set_option maxRecDepth 100000 in
theorem xd_db2ff10f : decode (ia_code 92) 145 = .ok (.iaload, 1) := fdd_d (by decide +kernel)
set_option maxRecDepth 100000 in
theorem xd_cbec5396 : decode (ia_code 92) 146 = .ok (.iconst 1, 1) := fdd_d (by decide +kernel)
set_option maxRecDepth 100000 in
theorem xd_2f4cb420 : decode (ia_code 92) 147 = .ok (.iload 6, 2) := fdd_d (by decide +kernel)
set_option maxRecDepth 100000 in
theorem xd_91d558b8 : decode (ia_code 92) 149 = .ok (.ishl, 1) := fdd_d (by decide +kernel)
set_option maxRecDepth 100000 in
theorem xd_bc453aa1 : decode (ia_code 92) 150 = .ok (.ior, 1) := fdd_d (by decide +kernel)
set_option maxRecDepth 100000 in
theorem xd_52d7cb62 : decode (ia_code 92) 151 = .ok (.iastore, 1) := fdd_d (by decide +kernel)
set_option maxRecDepth 100000 in
theorem xd_b54757c5 : decode (ia_code 92) 152 = .ok (.iload 6, 2) := fdd_d (by decide +kernel)
set_option maxRecDepth 100000 in
theorem xd_16d38340 : decode (ia_code 92) 154 = .ok (.ifCond .ne 12, 3) := fdd_d (by decide +kernel)
set_option maxRecDepth 100000 in
theorem xd_d1bbbcf8 : decode (ia_code 92) 166 = .ok (.iinc 5 1, 3) := fdd_d (by decide +kernel)
set_option maxRecDepth 100000 in
theorem xd_7af4cffb : decode (ia_code 92) 169 = .ok (.goto (-47), 3) := fdd_d (by decide +kernel)
set_option maxRecDepth 100000 in
theorem xd_aa24af2b : decode (ia_code 92) 157 = .ok (.iload_n 2, 1) := fdd_d (by decide +kernel)
set_option maxRecDepth 100000 in
theorem xd_9b2dc5c2 : decode (ia_code 92) 158 = .ok (.iconst 1, 1) := fdd_d (by decide +kernel)
set_option maxRecDepth 100000 in
theorem xd_ac0ba680 : decode (ia_code 92) 159 = .ok (.iload 5, 2) := fdd_d (by decide +kernel)
set_option maxRecDepth 100000 in
theorem xd_f230f045 : decode (ia_code 92) 161 = .ok (.ishl, 1) := fdd_d (by decide +kernel)
set_option maxRecDepth 100000 in
theorem xd_06e7b90e : decode (ia_code 92) 162 = .ok (.iconst (-1), 1) := fdd_d (by decide +kernel)
set_option maxRecDepth 100000 in
theorem xd_3736d667 : decode (ia_code 92) 163 = .ok (.ixor, 1) := fdd_d (by decide +kernel)
set_option maxRecDepth 100000 in
theorem xd_00a2b499 : decode (ia_code 92) 164 = .ok (.iand, 1) := fdd_d (by decide +kernel)
set_option maxRecDepth 100000 in
theorem xd_e4e043b8 : decode (ia_code 92) 165 = .ok (.istore_n 2, 1) := fdd_d (by decide +kernel)
set_option maxRecDepth 100000 in
theorem xd_ab5f66da : decode (ia_code 92) 60 = .ok (.iload_n 3, 1) := fdd_d (by decide +kernel)
set_option maxRecDepth 100000 in
theorem xd_e6536ce2 : decode (ia_code 92) 61 = .ok (.sipush 256, 3) := fdd_d (by decide +kernel)
set_option maxRecDepth 100000 in
theorem xd_4eeeb636 : decode (ia_code 92) 64 = .ok (.if_icmp .ge 114, 3) := fdd_d (by decide +kernel)
set_option maxRecDepth 100000 in
theorem xd_c04557c9 : decode (ia_code 92) 67 = .ok (.aload_n 0, 1) := fdd_d (by decide +kernel)
set_option maxRecDepth 100000 in
theorem xd_abe625fc : decode (ia_code 92) 68 = .ok (.iload_n 3, 1) := fdd_d (by decide +kernel)
set_option maxRecDepth 100000 in
theorem xl_bf831a84 : ia_pl (ia_cls 92) 325 = some (1, 265, 0, 0, 1892) := by decide +kernel
set_option maxRecDepth 100000 in
theorem xn_f62f9721 : ia_na 265 = 2 := by decide +kernel
set_option maxRecDepth 100000 in
theorem xc_81482482 : ia_mc 265 = 0 ∧ ia_ms 265 = 0 := ⟨by decide +kernel, by decide +kernel⟩
set_option maxRecDepth 100000 in
theorem xv_495f37e9 : cm_rcv 265 [.inr (.inr (some 184))] = true := by decide +kernel
set_option maxRecDepth 100000 in
theorem xd_7acb1166 : decode (ia_code 92) 69 = .ok (.invokevirtual 325, 3) := fdd_d (by decide +kernel)
set_option maxRecDepth 100000 in
theorem xd_fadd3a35 : decode (ia_code 92) 72 = .ok (.ifCond .eq 16, 3) := fdd_d (by decide +kernel)
set_option maxRecDepth 100000 in
theorem xd_a5124d9e : decode (ia_code 92) 88 = .ok (.iconst (-1), 1) := fdd_d (by decide +kernel)
set_option maxRecDepth 100000 in
theorem xd_94a6dffa : decode (ia_code 92) 89 = .ok (.istore 4, 2) := fdd_d (by decide +kernel)
set_option maxRecDepth 100000 in
theorem xd_b2334b89 : decode (ia_code 92) 91 = .ok (.iload 4, 2) := fdd_d (by decide +kernel)
set_option maxRecDepth 100000 in
theorem xd_2c080b21 : decode (ia_code 92) 93 = .ok (.ifCond .lt 79, 3) := fdd_d (by decide +kernel)
set_option maxRecDepth 100000 in
theorem xd_75b9f016 : decode (ia_code 92) 172 = .ok (.iinc 3 1, 3) := fdd_d (by decide +kernel)
set_option maxRecDepth 100000 in
theorem xd_f951f9e5 : decode (ia_code 92) 175 = .ok (.goto (-115), 3) := fdd_d (by decide +kernel)
set_option maxRecDepth 100000 in
theorem xd_acf6e107 : decode (ia_code 92) 75 = .ok (.aload_n 0, 1) := fdd_d (by decide +kernel)
set_option maxRecDepth 100000 in
theorem xd_da13d83a : decode (ia_code 92) 76 = .ok (.aload_n 0, 1) := fdd_d (by decide +kernel)
set_option maxRecDepth 100000 in
theorem xd_9c79b082 : decode (ia_code 92) 77 = .ok (.iconst 0, 1) := fdd_d (by decide +kernel)
set_option maxRecDepth 100000 in
theorem xl_05a9447c : ia_pl (ia_cls 92) 347 = some (1, 277, 0, 0, 1923) := by decide +kernel
set_option maxRecDepth 100000 in
theorem xn_47b317e4 : ia_na 277 = 2 := by decide +kernel
set_option maxRecDepth 100000 in
theorem xc_5c671289 : ia_mc 277 = 0 ∧ ia_ms 277 = 0 := ⟨by decide +kernel, by decide +kernel⟩
set_option maxRecDepth 100000 in
theorem xv_00384739 : cm_rcv 277 [.inr (.inr (some 184))] = true := by decide +kernel
set_option maxRecDepth 100000 in
theorem xd_296f4c60 : decode (ia_code 92) 78 = .ok (.invokevirtual 347, 3) := fdd_d (by decide +kernel)
set_option maxRecDepth 100000 in
theorem xd_521ce2e0 : decode (ia_code 92) 81 = .ok (.iload_n 3, 1) := fdd_d (by decide +kernel)
set_option maxRecDepth 100000 in
theorem xl_f34bedff : ia_pl (ia_cls 92) 328 = some (1, 244, 0, 0, 1899) := by decide +kernel
set_option maxRecDepth 100000 in
theorem xn_f1802f0c : ia_na 244 = 3 := by decide +kernel
set_option maxRecDepth 100000 in
theorem xc_b3a88ae2 : ia_mc 244 = 0 ∧ ia_ms 244 = 0 := ⟨by decide +kernel, by decide +kernel⟩
set_option maxRecDepth 100000 in
theorem xv_36a90576 : cm_rcv 244 [.inr (.inr (some 184))] = true := by decide +kernel
set_option maxRecDepth 100000 in
theorem xd_4c178947 : decode (ia_code 92) 82 = .ok (.invokevirtual 328, 3) := fdd_d (by decide +kernel)
set_option maxRecDepth 100000 in
theorem xd_70239475 : decode (ia_code 92) 85 = .ok (.goto 4, 3) := fdd_d (by decide +kernel)
set_option maxRecDepth 100000 in
theorem xd_dbd4cdd1 : decode (ia_code 92) 96 = .ok (.iload 4, 2) := fdd_d (by decide +kernel)
set_option maxRecDepth 100000 in
theorem xd_55508788 : decode (ia_code 92) 98 = .ok (.aload_n 0, 1) := fdd_d (by decide +kernel)
set_option maxRecDepth 100000 in
theorem xd_512f3b01 : decode (ia_code 92) 99 = .ok (.getfield 33, 3) := fdd_d (by decide +kernel)
set_option maxRecDepth 100000 in
theorem xf_a3da6af7 : wk_gf 92 33 184 6 (186 + 3) = true := by decide +kernel
set_option maxRecDepth 100000 in
theorem xd_5ff1ee75 : decode (ia_code 92) 102 = .ok (.iconst 4, 1) := fdd_d (by decide +kernel)
set_option maxRecDepth 100000 in
theorem xd_4df56861 : decode (ia_code 92) 103 = .ok (.iaload, 1) := fdd_d (by decide +kernel)
set_option maxRecDepth 100000 in
theorem xd_c8636477 : decode (ia_code 92) 104 = .ok (.idiv, 1) := fdd_d (by decide +kernel)
set_option maxRecDepth 100000 in
theorem xd_8f5207b7 : decode (ia_code 92) 105 = .ok (.aload_n 0, 1) := fdd_d (by decide +kernel)
set_option maxRecDepth 100000 in
theorem xd_cbb0f205 : decode (ia_code 92) 106 = .ok (.iconst 1, 1) := fdd_d (by decide +kernel)
set_option maxRecDepth 100000 in
theorem xd_c48dd379 : decode (ia_code 92) 107 = .ok (.invokevirtual 347, 3) := fdd_d (by decide +kernel)
set_option maxRecDepth 100000 in
theorem xd_52d840ee : decode (ia_code 92) 110 = .ok (.if_icmp .eq 6, 3) := fdd_d (by decide +kernel)
set_option maxRecDepth 100000 in
theorem xd_534d0045 : decode (ia_code 92) 116 = .ok (.iinc 1 1, 3) := fdd_d (by decide +kernel)
set_option maxRecDepth 100000 in
theorem xd_b1392921 : decode (ia_code 92) 119 = .ok (.iconst 0, 1) := fdd_d (by decide +kernel)
set_option maxRecDepth 100000 in
theorem xd_e1bab31c : decode (ia_code 92) 120 = .ok (.istore 5, 2) := fdd_d (by decide +kernel)
set_option maxRecDepth 100000 in
theorem xd_8c767d12 : decode (ia_code 92) 113 = .ok (.goto 59, 3) := fdd_d (by decide +kernel)
set_option maxRecDepth 100000 in
theorem xd_8cdc6f49 : decode (ia_code 92) 0 = .ok (.aload_n 0, 1) := fdd_d (by decide +kernel)
set_option maxRecDepth 100000 in
theorem xd_e00ae0b7 : decode (ia_code 92) 1 = .ok (.iconst 0, 1) := fdd_d (by decide +kernel)
set_option maxRecDepth 100000 in
theorem xd_1aa0f98b : decode (ia_code 92) 2 = .ok (.putfield 1, 3) := fdd_d (by decide +kernel)
set_option maxRecDepth 100000 in
theorem xf_abb94fae : wk_pf 92 1 184 0 0 = true := by decide +kernel
set_option maxRecDepth 100000 in
theorem xd_17f3240e : decode (ia_code 92) 5 = .ok (.aload_n 0, 1) := fdd_d (by decide +kernel)
set_option maxRecDepth 100000 in
theorem xd_4dbc0405 : decode (ia_code 92) 6 = .ok (.sipush 940, 3) := fdd_d (by decide +kernel)
set_option maxRecDepth 100000 in
theorem xl_162bf9e3 : ia_pl (ia_cls 92) 232 = some (1, 145, 0, 0, 1642) := by decide +kernel
set_option maxRecDepth 100000 in
theorem xd_e2aa137c : decode (ia_code 92) 9 = .ok (.invokevirtual 232, 3) := fdd_d (by decide +kernel)
set_option maxRecDepth 100000 in
theorem xd_6a722bf9 : decode (ia_code 92) 12 = .ok (.aload_n 0, 1) := fdd_d (by decide +kernel)
set_option maxRecDepth 100000 in
theorem xd_8273334d : decode (ia_code 92) 13 = .ok (.getfield 18, 3) := fdd_d (by decide +kernel)
set_option maxRecDepth 100000 in
theorem xf_56ab7564 : wk_gf 92 18 184 3 0 = true := by decide +kernel
set_option maxRecDepth 100000 in
theorem xd_1c5bf558 : decode (ia_code 92) 16 = .ok (.iconst 2, 1) := fdd_d (by decide +kernel)
set_option maxRecDepth 100000 in
theorem xd_719e1ba0 : decode (ia_code 92) 17 = .ok (.if_icmp .ne 14, 3) := fdd_d (by decide +kernel)
set_option maxRecDepth 100000 in
theorem xd_8bec8e63 : decode (ia_code 92) 31 = .ok (.iconst (-1), 1) := fdd_d (by decide +kernel)
set_option maxRecDepth 100000 in
theorem xd_1f4d984f : decode (ia_code 92) 32 = .ok (.ireturn, 1) := fdd_d (by decide +kernel)
set_option maxRecDepth 100000 in
theorem xr_c9601f76 : ia_ret 92 = some .int := by decide +kernel
set_option maxRecDepth 100000 in
theorem xd_dffa5138 : decode (ia_code 92) 20 = .ok (.aload_n 0, 1) := fdd_d (by decide +kernel)
set_option maxRecDepth 100000 in
theorem xd_75a7a145 : decode (ia_code 92) 21 = .ok (.iconst 0, 1) := fdd_d (by decide +kernel)
set_option maxRecDepth 100000 in
theorem xd_c3cfc4ca : decode (ia_code 92) 22 = .ok (.invokevirtual 347, 3) := fdd_d (by decide +kernel)
set_option maxRecDepth 100000 in
theorem xd_b092f571 : decode (ia_code 92) 25 = .ok (.sipush 199, 3) := fdd_d (by decide +kernel)
set_option maxRecDepth 100000 in
theorem xd_85e25121 : decode (ia_code 92) 28 = .ok (.if_icmp .le 5, 3) := fdd_d (by decide +kernel)
set_option maxRecDepth 100000 in
theorem xd_c0848211 : decode (ia_code 92) 33 = .ok (.iconst 0, 1) := fdd_d (by decide +kernel)
set_option maxRecDepth 100000 in
theorem xd_79416d78 : decode (ia_code 92) 34 = .ok (.istore_n 1, 1) := fdd_d (by decide +kernel)
set_option maxRecDepth 100000 in
theorem xd_8b08036c : decode (ia_code 92) 35 = .ok (.bipush 15, 2) := fdd_d (by decide +kernel)
set_option maxRecDepth 100000 in
theorem xd_66ffbe80 : decode (ia_code 92) 37 = .ok (.istore_n 2, 1) := fdd_d (by decide +kernel)
set_option maxRecDepth 100000 in
theorem xd_40bf0951 : decode (ia_code 92) 38 = .ok (.iconst 0, 1) := fdd_d (by decide +kernel)
set_option maxRecDepth 100000 in
theorem xd_39aff9de : decode (ia_code 92) 39 = .ok (.istore_n 3, 1) := fdd_d (by decide +kernel)
set_option maxRecDepth 100000 in
theorem xd_7264aad5 : decode (ia_code 92) 40 = .ok (.iload_n 3, 1) := fdd_d (by decide +kernel)
set_option maxRecDepth 100000 in
theorem xd_6ded75ff : decode (ia_code 92) 41 = .ok (.iconst 4, 1) := fdd_d (by decide +kernel)
set_option maxRecDepth 100000 in
theorem xd_94f64c07 : decode (ia_code 92) 42 = .ok (.if_icmp .ge 16, 3) := fdd_d (by decide +kernel)
set_option maxRecDepth 100000 in
theorem xd_f4e8482f : decode (ia_code 92) 45 = .ok (.aload_n 0, 1) := fdd_d (by decide +kernel)
set_option maxRecDepth 100000 in
theorem xd_0cc9e949 : decode (ia_code 92) 46 = .ok (.getfield 68, 3) := fdd_d (by decide +kernel)
set_option maxRecDepth 100000 in
theorem xd_e9ae0327 : decode (ia_code 92) 49 = .ok (.iload_n 3, 1) := fdd_d (by decide +kernel)
set_option maxRecDepth 100000 in
theorem xd_14365d2b : decode (ia_code 92) 50 = .ok (.iconst 0, 1) := fdd_d (by decide +kernel)
set_option maxRecDepth 100000 in
theorem xd_b19fb3ad : decode (ia_code 92) 51 = .ok (.iastore, 1) := fdd_d (by decide +kernel)
set_option maxRecDepth 100000 in
theorem xd_9317b4a6 : decode (ia_code 92) 52 = .ok (.iinc 3 1, 3) := fdd_d (by decide +kernel)
set_option maxRecDepth 100000 in
theorem xd_eef0be27 : decode (ia_code 92) 55 = .ok (.goto (-15), 3) := fdd_d (by decide +kernel)
set_option maxRecDepth 100000 in
theorem xd_ad757b2b : decode (ia_code 92) 58 = .ok (.iconst 0, 1) := fdd_d (by decide +kernel)
set_option maxRecDepth 100000 in
theorem xd_52749578 : decode (ia_code 92) 59 = .ok (.istore_n 3, 1) := fdd_d (by decide +kernel)
set_option maxRecDepth 100000 in
theorem xd_42bfc27c : decode (ia_code 92) 178 = .ok (.iload_n 1, 1) := fdd_d (by decide +kernel)
set_option maxRecDepth 100000 in
theorem xd_9ffa5a8b : decode (ia_code 92) 179 = .ok (.ifCond .le 8, 3) := fdd_d (by decide +kernel)
set_option maxRecDepth 100000 in
theorem xd_d7aa123d : decode (ia_code 92) 187 = .ok (.iload_n 1, 1) := fdd_d (by decide +kernel)
set_option maxRecDepth 100000 in
theorem xd_bd0863cb : decode (ia_code 92) 188 = .ok (.ireturn, 1) := fdd_d (by decide +kernel)
set_option maxRecDepth 100000 in
theorem xd_2be6a3a7 : decode (ia_code 92) 182 = .ok (.aload_n 0, 1) := fdd_d (by decide +kernel)
set_option maxRecDepth 100000 in
theorem xd_9056c97e : decode (ia_code 92) 183 = .ok (.iload_n 2, 1) := fdd_d (by decide +kernel)
set_option maxRecDepth 100000 in
theorem xl_fb4ba850 : ia_pl (ia_cls 92) 350 = some (1, 287, 0, 0, 1927) := by decide +kernel
set_option maxRecDepth 100000 in
theorem xn_b6e5a531 : ia_na 287 = 2 := by decide +kernel
set_option maxRecDepth 100000 in
theorem xc_4e24ab95 : ia_mc 287 = 0 ∧ ia_ms 287 = 0 := ⟨by decide +kernel, by decide +kernel⟩
set_option maxRecDepth 100000 in
theorem xv_00d47f4a : cm_rcv 287 [.inr (.inr (some 184))] = true := by decide +kernel
set_option maxRecDepth 100000 in
theorem xd_4dcdd1eb : decode (ia_code 92) 184 = .ok (.invokevirtual 350, 3) := fdd_d (by decide +kernel)
/-! ## the reference's ate, exactly (wip/p22/gen_atr.py) -/
theorem rbt_lp {w : cm_W} {x0 : Int32} (Q : cm_O → Prop) : ∀ (f : Nat) (v n : Int32), at_bz f v = true → Q (some (.inl (at_bt f v n)), w) → cm_X (cm_C 0) 95 4 [some (.inl x0), some (.inl n), some (.inl v)] [] w Q := by
  intro f
  induction f with
  | zero =>
    intro v n hz hQ
    refine wk_iload_n xd_748035f1 rfl ?_
    refine wk_if xd_11222a3b (t := 20) rfl (fun h5_0 => ?_) (fun h5_0 => ?_)
    · have h5_0 := aw_eq_t (a := ((v).toInt : Int)) (b := (0 : Int)) rfl hb_z h5_0
      have hb := hQ
      refine wk_iload_n xd_6a4ced63 rfl ?_
      exact wk_ireturn xd_bd2b82c4 xr_b413192e rfl hb
    · have h5_0 := aw_eq_f (a := ((v).toInt : Int)) (b := (0 : Int)) rfl hb_z h5_0
      exact absurd (congrArg Int32.toInt (of_decide_eq_true hz)) (by have e9 := hb_z; omega)
  | succ f ih =>
    intro v n hz hQ
    refine wk_iload_n xd_748035f1 rfl ?_
    refine wk_if xd_11222a3b (t := 20) rfl (fun h5_1 => ?_) (fun h5_1 => ?_)
    · have h5_1 := aw_eq_t (a := ((v).toInt : Int)) (b := (0 : Int)) rfl hb_z h5_1
      have hv : v = 0 := Int32.toInt_inj.mp (by have e9 := hb_z; omega)
      have hb := hQ
      rw [show at_bt (f + 1) v n = if v = 0 then n else at_bt f (v &&& (v - Int32.ofInt 1)) (n + Int32.ofInt 1) from rfl, if_pos hv] at hb
      refine wk_iload_n xd_6a4ced63 rfl ?_
      exact wk_ireturn xd_bd2b82c4 xr_b413192e rfl hb
    · have h5_1 := aw_eq_f (a := ((v).toInt : Int)) (b := (0 : Int)) rfl hb_z h5_1
      have hv : ¬ v = 0 := fun e8 => by have e9 := hb_z; rw [e8] at h5_1; omega
      have hb := hQ
      rw [show at_bt (f + 1) v n = if v = 0 then n else at_bt f (v &&& (v - Int32.ofInt 1)) (n + Int32.ofInt 1) from rfl, if_neg hv] at hb
      have hz2 : at_bz f (v &&& (v - Int32.ofInt 1)) = true := by
        have e7 : (decide (v = 0) || at_bz f (v &&& (v - Int32.ofInt 1))) = true := hz
        rw [decide_eq_false hv] at e7
        exact e7
      refine wk_iinc xd_bedf6ffb (by rw [xm_dd4a0950]; rfl) rfl rfl ?_
      refine wk_iload_n xd_ee81d44f rfl ?_
      refine wk_iload_n xd_9864ed72 rfl ?_
      refine wk_iconst xd_c8b1036e ?_
      refine wk_isub xd_69e785f6 ?_
      refine wk_iand xd_90a5b908 ?_
      refine wk_istore_n xd_73b50ea9 (by rw [xm_dd4a0950]; rfl) rfl ?_
      refine wk_goto xd_1e26289d (t := 4) rfl ?_
      exact ih _ _ hz2 hb
theorem rbt_ok {w : cm_W} {v : Int32} (h0 : 0 ≤ v.toInt) (h1 : v.toInt ≤ 15) : cm_C 1 95 [.inl v] w (some (.inl (at_bc v)), w) := by
  have e1 : v = Int32.ofNat v.toInt.toNat := hk_of (j := v.toInt.toNat) (by omega) (by omega)
  obtain ⟨hb, hz⟩ := at_b16 v.toInt.toNat (by omega)
  rw [← e1] at hb hz
  refine wk_exact (d := 0) (by rw [xm_dd4a0950]; exact Nat.le_of_ble_eq_true rfl) ?_
  rw [show cm_ent 95 [.inl v] = [some (.inl v), none, none] from by unfold cm_ent; rw [xm_dd4a0950]; rfl]
  refine wk_iconst xd_397278df ?_
  refine wk_istore_n xd_c16d271c (by rw [xm_dd4a0950]; rfl) rfl ?_
  refine wk_iload_n xd_e38a14eb rfl ?_
  refine wk_istore_n xd_5ff691c3 (by rw [xm_dd4a0950]; rfl) rfl ?_
  exact rbt_lp _ 5 _ _ hz (by rw [hb])
theorem rtl_lp {w0 : cm_W} {su : Int32} {F : Nat} (hF : (w0.1 186 1).toInt = (F : Int)) (hF4 : F ≤ 4) (hs : ∀ i, i < F → 0 ≤ (w0.1 195 i).toInt ∧ (w0.1 195 i).toInt ≤ 15) (Q : cm_O → Prop) : ∀ (n j : Nat) (most vj : Int32) (w : cm_W), n + j = F → vj.toInt = (j : Int) → (∀ k i, ¬ (k = 184 ∧ i = 29) → w.1 k i = w0.1 k i) → (∀ w' : cm_W, (∀ k i, ¬ (k = 184 ∧ i = 29) → w'.1 k i = w0.1 k i) → w'.1 184 29 = at_mu (w0.1 195) n j (w.1 184 29) most → w'.2 = w.2 → Q (none, w')) → cm_X (cm_C 1) 287 19 [some (.inr (.inr (some 184))), some (.inl su), some (.inl most), some (.inl vj)] [] w Q := by
  intro n
  induction n with
  | zero =>
    intro j most vj w hj hvj hfr hQ
    have hFw : (w.1 186 1).toInt = (F : Int) := by rw [hfr 186 1 (by omega)]; exact hF
    refine wk_iload_n xd_792689d7 rfl ?_
    refine wk_aload_n xd_a75120b0 rfl ?_
    refine wk_getR xf_eb9215a3 xd_0e0243b0 ?_
    refine wk_iconst xd_aff6557d ?_
    refine aw_iaload (i := 1) xf_31d67ad9 (show ((Int32.ofInt 1)).toInt = 1 from by decide) (by omega) (by omega) xd_0e4f17c7 ?_
    refine wk_icmp xd_bc13712c (t := 66) rfl (fun h26_0 => ?_) (fun h26_0 => ?_)
    · have h26_0 := aw_ge_t (a := ((j : Int) : Int)) (b := ((F : Int) : Int)) hvj (show ((w.1 186 1)).toInt = ((F : Int) : Int) from hFw) h26_0
      exact wk_return xd_50a881f5 xr_b12285bd (hQ w hfr rfl rfl)
    · have h26_0 := aw_ge_f (a := ((j : Int) : Int)) (b := ((F : Int) : Int)) hvj (show ((w.1 186 1)).toInt = ((F : Int) : Int) from hFw) h26_0
      exfalso
      omega
  | succ n ih =>
    intro j most vj w hj hvj hfr hQ
    have hFw : (w.1 186 1).toInt = (F : Int) := by rw [hfr 186 1 (by omega)]; exact hF
    have hsj0 : w.1 195 j = w0.1 195 j := hfr 195 j (by omega)
    have hsj : 0 ≤ (w.1 195 j).toInt ∧ (w.1 195 j).toInt ≤ 15 := by rw [hsj0]; exact hs j (by omega)
    refine wk_iload_n xd_792689d7 rfl ?_
    refine wk_aload_n xd_a75120b0 rfl ?_
    refine wk_getR xf_eb9215a3 xd_0e0243b0 ?_
    refine wk_iconst xd_aff6557d ?_
    refine aw_iaload (i := 1) xf_31d67ad9 (show ((Int32.ofInt 1)).toInt = 1 from by decide) (by omega) (by omega) xd_0e4f17c7 ?_
    refine wk_icmp xd_bc13712c (t := 66) rfl (fun h26_1 => ?_) (fun h26_1 => ?_)
    · have h26_1 := aw_ge_t (a := ((j : Int) : Int)) (b := ((F : Int) : Int)) hvj (show ((w.1 186 1)).toInt = ((F : Int) : Int) from hFw) h26_1
      exfalso
      omega
    · have h26_1 := aw_ge_f (a := ((j : Int) : Int)) (b := ((F : Int) : Int)) hvj (show ((w.1 186 1)).toInt = ((F : Int) : Int) from hFw) h26_1
      refine wk_aload_n xd_3c9b8942 rfl ?_
      refine wk_getR xf_79c7b550 xd_6b89d58b ?_
      refine wk_iload_n xd_4d32d517 rfl ?_
      refine aw_iaload (i := j) xf_058027d6 hvj (by omega) (by omega) xd_f4f2af1f ?_
      refine wk_call (kd := 1) (i := 319) xd_35a77d62 rfl (wk_cal (as := [.inl (w.1 195 j)]) (t := []) xl_a01c8a3b rfl xn_52595bb2 xc_334ff9e4 rfl rfl rfl rfl) (rbt_ok hsj.1 hsj.2) ?_
      refine wk_iload_n xd_060e86bc rfl ?_
      refine wk_icmp xd_5f4b461e (t := 45) rfl (fun h39_2 => ?_) (fun h39_2 => ?_)
      · have h39_2 := aw_gt_t (a := ((at_bc (w.1 195 j)).toInt : Int)) (b := ((most).toInt : Int)) rfl rfl h39_2
        have hb := hQ
        rw [show at_mu (w0.1 195) (n + 1) j (w.1 184 29) most = if most < at_bc (w0.1 195 j) then at_mu (w0.1 195) n (j + 1) (Int32.ofNat j) (at_bc (w0.1 195 j)) else at_mu (w0.1 195) n (j + 1) (w.1 184 29) most from rfl, if_pos (show most < at_bc (w0.1 195 j) from by rw [Int32.lt_iff_toInt_lt, ← hsj0]; omega), ← hk_of hvj (by omega)] at hb
        refine wk_aload_n xd_8c4339a7 rfl ?_
        refine wk_getR xf_79c7b550 xd_d891c20b ?_
        refine wk_iload_n xd_910572af rfl ?_
        refine aw_iaload (i := j) xf_058027d6 hvj (by omega) (by omega) xd_4c224180 ?_
        refine wk_call (kd := 1) (i := 319) xd_e27483a4 rfl (wk_cal (as := [.inl (w.1 195 j)]) (t := []) xl_a01c8a3b rfl xn_52595bb2 xc_334ff9e4 rfl rfl rfl rfl) (rbt_ok hsj.1 hsj.2) ?_
        refine wk_istore_n xd_b621db6d (by rw [xm_233bf280]; rfl) rfl ?_
        refine wk_aload_n xd_0d665c80 rfl ?_
        refine wk_iload_n xd_6620cc00 rfl ?_
        refine wk_putI xf_bfce513b (fun ci => wk_fitI ci) xd_f82eb7c7 ?_
        refine aw_iinc (a := ((j : Int) : Int)) (b := (1 : Int)) (e := ((j : Int) + 1 : Int)) xd_671a6e53 (by rw [xm_233bf280]; rfl) rfl rfl hvj (show ((Int32.ofInt 1)).toInt = 1 from by decide) (by omega) (by omega) (by omega) (fun v4_ p4_ => ?_)
        refine wk_goto xd_115f0645 (t := 19) rfl ?_
        refine ih (j + 1) _ _ (cm_u1 w 184 29 vj) (by omega) (by omega) (fun k i hk => (hs_u1_ne hk).trans (hfr k i hk)) (fun w' a1 a2 a3 => hb w' a1 ?_ (a3.trans rfl))
        rw [a2, hs_u1_self, hsj0]
      · have h39_2 := aw_gt_f (a := ((at_bc (w.1 195 j)).toInt : Int)) (b := ((most).toInt : Int)) rfl rfl h39_2
        have hb := hQ
        rw [show at_mu (w0.1 195) (n + 1) j (w.1 184 29) most = if most < at_bc (w0.1 195 j) then at_mu (w0.1 195) n (j + 1) (Int32.ofNat j) (at_bc (w0.1 195 j)) else at_mu (w0.1 195) n (j + 1) (w.1 184 29) most from rfl, if_neg (show ¬ most < at_bc (w0.1 195 j) from by rw [Int32.lt_iff_toInt_lt, ← hsj0]; omega)] at hb
        refine wk_goto xd_194f120e (t := 60) rfl ?_
        refine aw_iinc (a := ((j : Int) : Int)) (b := (1 : Int)) (e := ((j : Int) + 1 : Int)) xd_671a6e53 (by rw [xm_233bf280]; rfl) rfl rfl hvj (show ((Int32.ofInt 1)).toInt = 1 from by decide) (by omega) (by omega) (by omega) (fun v5_ p5_ => ?_)
        refine wk_goto xd_115f0645 (t := 19) rfl ?_
        exact ih (j + 1) _ _ w (by omega) (by omega) hfr hb
theorem rtl_ok {w : cm_W} {su : Int32} {F : Nat} (hF : (w.1 186 1).toInt = (F : Int)) (hF4 : F ≤ 4) (hs : ∀ i, i < F → 0 ≤ (w.1 195 i).toInt ∧ (w.1 195 i).toInt ≤ 15) : ∃ w', cm_C 2 287 [.inr (.inr (some 184)), .inl su] w (none, w') ∧ (∀ k i, ¬ (k = 184 ∧ 28 ≤ i ∧ i ≤ 30) → w'.1 k i = w.1 k i) ∧ (w'.1 184 30).toInt = 1 ∧ w'.1 184 28 = su ∧ w'.1 184 29 = at_mu (w.1 195) F 0 (Int32.ofInt (-1)) (Int32.ofInt 0) ∧ w'.2 = w.2 := by
  have h : ∃ o, cm_C (1 + 1) 287 [.inr (.inr (some 184)), .inl su] w o ∧ (fun o : cm_O => ∃ w', o = (none, w') ∧ (∀ k i, ¬ (k = 184 ∧ 28 ≤ i ∧ i ≤ 30) → w'.1 k i = w.1 k i) ∧ (w'.1 184 30).toInt = 1 ∧ w'.1 184 28 = su ∧ w'.1 184 29 = at_mu (w.1 195) F 0 (Int32.ofInt (-1)) (Int32.ofInt 0) ∧ w'.2 = w.2) o := by
    refine wk_entry (by rw [xm_233bf280]; exact Nat.le_of_ble_eq_true rfl) ?_
    rw [show cm_ent 287 [.inr (.inr (some 184)), .inl su] = [some (.inr (.inr (some 184))), some (.inl su), none, none] from by unfold cm_ent; rw [xm_233bf280]; rfl]
    refine wk_aload_n xd_20644501 rfl ?_
    refine wk_iconst xd_d9b9c12c ?_
    refine wk_putI xf_f7e32349 (fun _ => aw_fb (.inr (by decide))) xd_ace30617 ?_
    refine wk_aload_n xd_bb4b0e46 rfl ?_
    refine wk_iload_n xd_aacdcda6 rfl ?_
    refine wk_putI xf_9a189b2c (fun ci => wk_fitI ci) xd_94ea909e ?_
    refine wk_aload_n xd_ff4f8998 rfl ?_
    refine wk_iconst xd_4afeee4e ?_
    refine wk_putI xf_bfce513b (fun ci => wk_fitI ci) xd_54e6eccb ?_
    refine wk_iconst xd_f35b2130 ?_
    refine wk_istore_n xd_94a75d99 (by rw [xm_233bf280]; rfl) rfl ?_
    refine wk_iconst xd_dd0be8b0 ?_
    refine wk_istore_n xd_cbf71ac7 (by rw [xm_233bf280]; rfl) rfl ?_
    exact rtl_lp (w0 := (cm_u1 (cm_u1 (cm_u1 w 184 30 (Int32.ofInt 1)) 184 28 su) 184 29 (Int32.ofInt (-1)))) (F := F) hF hF4 hs _ F 0 _ _ (cm_u1 (cm_u1 (cm_u1 w 184 30 (Int32.ofInt 1)) 184 28 su) 184 29 (Int32.ofInt (-1))) (by omega) (show ((Int32.ofInt 0)).toInt = 0 from by decide) (fun _ _ _ => rfl) (fun w' a1 a2 a3 => ⟨w', rfl, fun k i hk => (a1 k i (by omega)).trans ((hs_u1_ne (by omega)).trans ((hs_u1_ne (by omega)).trans (hs_u1_ne (by omega)))), by rw [a1 184 30 (by omega), hs_u1_ne (by omega), hs_u1_ne (by omega), hs_u1_self]; decide, (a1 184 28 (by omega)).trans ((hs_u1_ne (by omega)).trans hs_u1_self), a2.trans (by rw [hs_u1_self]; rfl), a3.trans rfl⟩)
  obtain ⟨o, hC, w', rfl, a⟩ := h
  exact ⟨w', hC, a⟩
theorem roc_ok {w : cm_W} {v : Int32} {q : Nat} (hv : v.toInt = (q : Int)) (hq : q < 940) : cm_C 1 277 [.inr (.inr (some 184)), .inl v] w (some (.inl (w.1 185 q &&& ((Int16.ofInt 255).toInt32))), w) := by
  refine wk_exact (d := 0) (by rw [xm_3b0ee560]; exact Nat.le_of_ble_eq_true rfl) ?_
  rw [show cm_ent 277 [.inr (.inr (some 184)), .inl v] = [some (.inr (.inr (some 184))), some (.inl v)] from by unfold cm_ent; rw [xm_3b0ee560]; rfl]
  refine wk_aload_n xd_3033d50d rfl ?_
  refine wk_getR xf_1fae7998 xd_6d567faf ?_
  refine wk_iload_n xd_570c8e43 rfl ?_
  refine rm_baload (i := q) xf_4af44f64 hv rfl (by omega) xd_e20eea6b rfl ?_
  refine wk_sipush xd_3d0a6619 ?_
  refine wk_iand xd_70673b63 ?_
  exact wk_ireturn xd_5ce00e03 xr_622a8f21 rfl rfl
theorem rat_in {p z1 z4 : Int32} (Q : cm_O → Prop) : ∀ (n j : Nat) (z2 : Int32) (o6 : Option cm_V) (w : cm_W), n + j = 4 → (∀ w' : cm_W, (∀ i, w'.1 195 i = if j ≤ i ∧ i < 4 then w.1 195 i ||| (Int32.ofInt 1 <<< (hu_n p i &&& 31)) else w.1 195 i) → (∀ k i, k ≠ 195 → w'.1 k i = w.1 k i) → w'.2 = w.2 → ∀ (v5 : Int32) (o6 : Option cm_V), cm_X (cm_C 5) 92 172 [some (.inr (.inr (some 184))), some (.inl z1), some (.inl (at_rc p n j z2)), some (.inl p), some (.inl z4), some (.inl v5), o6] [] w' Q) → cm_X (cm_C 5) 92 122 [some (.inr (.inr (some 184))), some (.inl z1), some (.inl z2), some (.inl p), some (.inl z4), some (.inl (Int32.ofNat j)), o6] [] w Q := by
  intro n
  induction n with
  | zero =>
    intro j z2 o6 w hj hQ
    refine wk_iload xd_973e1355 rfl ?_
    refine wk_iconst xd_c096671c ?_
    refine wk_icmp xd_1d5e4a5e (t := 172) rfl (fun h125_0 => ?_) (fun h125_0 => ?_)
    · have h125_0 := aw_ge_t (a := ((j : Int) : Int)) (b := (4 : Int)) (hk_to j (by omega)) (show ((Int32.ofInt 4)).toInt = 4 from by decide) h125_0
      exact hQ w (fun i => by rw [if_neg (by omega)]) (fun _ _ _ => rfl) rfl _ _
    · have h125_0 := aw_ge_f (a := ((j : Int) : Int)) (b := (4 : Int)) (hk_to j (by omega)) (show ((Int32.ofInt 4)).toInt = 4 from by decide) h125_0
      exfalso
      omega
  | succ n ih =>
    intro j z2 o6 w hj hQ
    refine wk_iload xd_973e1355 rfl ?_
    refine wk_iconst xd_c096671c ?_
    refine wk_icmp xd_1d5e4a5e (t := 172) rfl (fun h125_1 => ?_) (fun h125_1 => ?_)
    · have h125_1 := aw_ge_t (a := ((j : Int) : Int)) (b := (4 : Int)) (hk_to j (by omega)) (show ((Int32.ofInt 4)).toInt = 4 from by decide) h125_1
      exfalso
      omega
    · have h125_1 := aw_ge_f (a := ((j : Int) : Int)) (b := (4 : Int)) (hk_to j (by omega)) (show ((Int32.ofInt 4)).toInt = 4 from by decide) h125_1
      refine wk_iload_n xd_d05c6a64 rfl ?_
      refine wk_iconst xd_bd1c437c ?_
      refine wk_iload xd_64d276e8 rfl ?_
      refine wk_imul xd_ae95564b ?_
      refine wk_ishr xd_16be3f9f ?_
      refine wk_iconst xd_e9c551d8 ?_
      refine wk_iand xd_d17a8fc2 ?_
      refine wk_istore xd_4f987998 (by rw [xm_68071159]; rfl) rfl ?_
      refine wk_aload_n xd_4cdaa6fe rfl ?_
      refine wk_getR xf_158968c2 xd_433e4c07 ?_
      refine wk_iload xd_e5cf49d5 rfl ?_
      refine wk_dup2 xd_f20d46e4 ?_
      refine aw_iaload (i := j) xf_058027d6 (hk_to j (by omega)) (by omega) (by omega) xd_db2ff10f ?_
      refine wk_iconst xd_cbec5396 ?_
      refine wk_iload xd_2f4cb420 rfl ?_
      refine aw_ishl xd_91d558b8 ?_
      refine aw_ior xd_bc453aa1 ?_
      refine aw_iastore (i := j) xf_058027d6 (hk_to j (by omega)) (by omega) (by omega) xd_52d7cb62 ?_
      refine wk_iload xd_b54757c5 rfl ?_
      refine wk_if xd_16d38340 (t := 166) rfl (fun h154_2 => ?_) (fun h154_2 => ?_)
      · have h154_2 := aw_ne_t (a := ((hu_n p j).toInt : Int)) (b := (0 : Int)) rfl hb_z h154_2
        have hb := hQ
        rw [show at_rc p (n + 1) j z2 = at_rc p n (j + 1) (if hu_n p j = 0 then z2 &&& ((Int32.ofInt 1 <<< (Int32.ofNat j &&& 31)) ^^^ Int32.ofInt (-1)) else z2) from rfl, if_neg (fun e8 => by have e9 := hb_z; rw [e8] at h154_2; omega)] at hb
        refine aw_iinc (a := ((j : Int) : Int)) (b := (1 : Int)) (e := ((j : Int) + 1 : Int)) xd_d1bbbcf8 (by rw [xm_68071159]; rfl) rfl rfl (hk_to j (by omega)) (show ((Int32.ofInt 1)).toInt = 1 from by decide) (by omega) (by omega) (by omega) (fun v4_ p4_ => ?_)
        refine wk_goto xd_7af4cffb (t := 122) rfl ?_
        rw [hk_of (x := v4_) (j := j + 1) (by omega) (by omega)]
        refine ih (j + 1) z2 _ _ (by omega) (fun w' h1 h2 h3 v5 o6 => ?_)
        have e1 : w'.1 195 = fun i => if j ≤ i ∧ i < 4 then w.1 195 i ||| (Int32.ofInt 1 <<< (hu_n p i &&& 31)) else w.1 195 i := funext fun i => by
          rw [show w'.1 195 i = if j + 1 ≤ i ∧ i < 4 then (cm_u1 w 195 j ((w.1 195 j) ||| ((Int32.ofInt 1) <<< ((hu_n p j) &&& 31)))).1 195 i ||| (Int32.ofInt 1 <<< (hu_n p i &&& 31)) else (cm_u1 w 195 j ((w.1 195 j) ||| ((Int32.ofInt 1) <<< ((hu_n p j) &&& 31)))).1 195 i from h1 i]
          by_cases c : i = j
          · rw [c, if_neg (by omega), if_pos (by omega)]
            exact hs_u1_self
          · rw [show (cm_u1 w 195 j ((w.1 195 j) ||| ((Int32.ofInt 1) <<< ((hu_n p j) &&& 31)))).1 195 i = w.1 195 i from hs_u1_ne (by omega)]
            by_cases c2 : j + 1 ≤ i ∧ i < 4
            · rw [if_pos c2, if_pos (by omega)]
            · rw [if_neg c2, if_neg (by omega)]
        exact hb w' (fun i => by rw [e1]) (fun k i hk => (h2 k i hk).trans (hs_u1_ne (by omega))) (h3.trans rfl) v5 o6
      · have h154_2 := aw_ne_f (a := ((hu_n p j).toInt : Int)) (b := (0 : Int)) rfl hb_z h154_2
        have hb := hQ
        rw [show at_rc p (n + 1) j z2 = at_rc p n (j + 1) (if hu_n p j = 0 then z2 &&& ((Int32.ofInt 1 <<< (Int32.ofNat j &&& 31)) ^^^ Int32.ofInt (-1)) else z2) from rfl, if_pos (Int32.toInt_inj.mp (by have e9 := hb_z; omega))] at hb
        refine wk_iload_n xd_aa24af2b rfl ?_
        refine wk_iconst xd_9b2dc5c2 ?_
        refine wk_iload xd_ac0ba680 rfl ?_
        refine aw_ishl xd_f230f045 ?_
        refine wk_iconst xd_06e7b90e ?_
        refine aw_ixor xd_3736d667 ?_
        refine wk_iand xd_00a2b499 ?_
        refine wk_istore_n xd_e4e043b8 (by rw [xm_68071159]; rfl) rfl ?_
        refine aw_iinc (a := ((j : Int) : Int)) (b := (1 : Int)) (e := ((j : Int) + 1 : Int)) xd_d1bbbcf8 (by rw [xm_68071159]; rfl) rfl rfl (hk_to j (by omega)) (show ((Int32.ofInt 1)).toInt = 1 from by decide) (by omega) (by omega) (by omega) (fun v5_ p5_ => ?_)
        refine wk_goto xd_7af4cffb (t := 122) rfl ?_
        rw [hk_of (x := v5_) (j := j + 1) (by omega) (by omega)]
        refine ih (j + 1) (z2 &&& (((Int32.ofInt 1) <<< ((Int32.ofNat j) &&& 31)) ^^^ (Int32.ofInt (-1)))) _ _ (by omega) (fun w' h1 h2 h3 v5 o6 => ?_)
        have e1 : w'.1 195 = fun i => if j ≤ i ∧ i < 4 then w.1 195 i ||| (Int32.ofInt 1 <<< (hu_n p i &&& 31)) else w.1 195 i := funext fun i => by
          rw [show w'.1 195 i = if j + 1 ≤ i ∧ i < 4 then (cm_u1 w 195 j ((w.1 195 j) ||| ((Int32.ofInt 1) <<< ((hu_n p j) &&& 31)))).1 195 i ||| (Int32.ofInt 1 <<< (hu_n p i &&& 31)) else (cm_u1 w 195 j ((w.1 195 j) ||| ((Int32.ofInt 1) <<< ((hu_n p j) &&& 31)))).1 195 i from h1 i]
          by_cases c : i = j
          · rw [c, if_neg (by omega), if_pos (by omega)]
            exact hs_u1_self
          · rw [show (cm_u1 w 195 j ((w.1 195 j) ||| ((Int32.ofInt 1) <<< ((hu_n p j) &&& 31)))).1 195 i = w.1 195 i from hs_u1_ne (by omega)]
            by_cases c2 : j + 1 ≤ i ∧ i < 4
            · rw [if_pos c2, if_pos (by omega)]
            · rw [if_neg c2, if_neg (by omega)]
        exact hb w' (fun i => by rw [e1]) (fun k i hk => (h2 k i hk).trans (hs_u1_ne (by omega))) (h3.trans rfl) v5 o6
theorem rat_lp {w0 : cm_W} {F S : Nat} (hF : (w0.1 186 1).toInt = (F : Int)) (hF4 : F ≤ 4) (hS : (w0.1 186 4).toInt = (S : Int)) (hS0 : 0 < S) (hd : 0 ≤ (w0.1 185 1 &&& ((Int16.ofInt 255).toInt32)).toInt) (Q : cm_O → Prop) (hk : ∀ (w : cm_W) (z1 z2 v3 : Int32) (o4 o5 o6 : Option cm_V), z1.toInt = (((((List.range 256).map (fun k => Int32.ofNat k)).filter (at_pt F)).foldl (at_sr (at_P (fun j => w0.1 186 (25 + j)) F (w0.1 186 4) (w0.1 185 0 &&& ((Int16.ofInt 255).toInt32)) (w0.1 185 1 &&& ((Int16.ofInt 255).toInt32)))) (0, (fun _ => Int32.ofInt 0), Int32.ofInt 15)).1 : Int) ∧ z2 = ((((List.range 256).map (fun k => Int32.ofNat k)).filter (at_pt F)).foldl (at_sr (at_P (fun j => w0.1 186 (25 + j)) F (w0.1 186 4) (w0.1 185 0 &&& ((Int16.ofInt 255).toInt32)) (w0.1 185 1 &&& ((Int16.ofInt 255).toInt32)))) (0, (fun _ => Int32.ofInt 0), Int32.ofInt 15)).2.2 ∧ (∀ i, i < 4 → w.1 195 i = ((((List.range 256).map (fun k => Int32.ofNat k)).filter (at_pt F)).foldl (at_sr (at_P (fun j => w0.1 186 (25 + j)) F (w0.1 186 4) (w0.1 185 0 &&& ((Int16.ofInt 255).toInt32)) (w0.1 185 1 &&& ((Int16.ofInt 255).toInt32)))) (0, (fun _ => Int32.ofInt 0), Int32.ofInt 15)).2.1 i) ∧ (∀ k i, k ≠ 195 → w.1 k i = w0.1 k i) ∧ w.2 = w0.2 → cm_X (cm_C 5) 92 178 [some (.inr (.inr (some 184))), some (.inl z1), some (.inl z2), some (.inl v3), o4, o5, o6] [] w Q) : ∀ (f k : Nat) (z1 z2 : Int32) (o4 o5 o6 : Option cm_V) (w : cm_W), f + k = 256 → z1.toInt = (((((List.range k).map (fun k => Int32.ofNat k)).filter (at_pt F)).foldl (at_sr (at_P (fun j => w0.1 186 (25 + j)) F (w0.1 186 4) (w0.1 185 0 &&& ((Int16.ofInt 255).toInt32)) (w0.1 185 1 &&& ((Int16.ofInt 255).toInt32)))) (0, (fun _ => Int32.ofInt 0), Int32.ofInt 15)).1 : Int) ∧ z2 = ((((List.range k).map (fun k => Int32.ofNat k)).filter (at_pt F)).foldl (at_sr (at_P (fun j => w0.1 186 (25 + j)) F (w0.1 186 4) (w0.1 185 0 &&& ((Int16.ofInt 255).toInt32)) (w0.1 185 1 &&& ((Int16.ofInt 255).toInt32)))) (0, (fun _ => Int32.ofInt 0), Int32.ofInt 15)).2.2 ∧ (∀ i, i < 4 → w.1 195 i = ((((List.range k).map (fun k => Int32.ofNat k)).filter (at_pt F)).foldl (at_sr (at_P (fun j => w0.1 186 (25 + j)) F (w0.1 186 4) (w0.1 185 0 &&& ((Int16.ofInt 255).toInt32)) (w0.1 185 1 &&& ((Int16.ofInt 255).toInt32)))) (0, (fun _ => Int32.ofInt 0), Int32.ofInt 15)).2.1 i) ∧ (∀ k i, k ≠ 195 → w.1 k i = w0.1 k i) ∧ w.2 = w0.2 → cm_X (cm_C 5) 92 60 [some (.inr (.inr (some 184))), some (.inl z1), some (.inl z2), some (.inl (Int32.ofNat k)), o4, o5, o6] [] w Q := by
  intro f
  induction f with
  | zero =>
    intro k z1 z2 o4 o5 o6 w hfk hI
    obtain ⟨hz1, hz2, hse, hfr, hf2⟩ := id hI
    obtain ⟨S0, hS0e⟩ : ∃ S0 : Nat, S0 = ((((List.range k).map (fun k => Int32.ofNat k)).filter (at_pt F)).foldl (at_sr (at_P (fun j => w0.1 186 (25 + j)) F (w0.1 186 4) (w0.1 185 0 &&& ((Int16.ofInt 255).toInt32)) (w0.1 185 1 &&& ((Int16.ofInt 255).toInt32)))) (0, (fun _ => Int32.ofInt 0), Int32.ofInt 15)).1 := ⟨_, rfl⟩
    rw [← hS0e] at hz1
    have hFw : (w.1 186 1).toInt = (F : Int) := by rw [hfr 186 1 (by omega)]; exact hF
    have hSw : (w.1 186 4).toInt = (S : Int) := by rw [hfr 186 4 (by omega)]; exact hS
    refine wk_iload_n xd_ab5f66da rfl ?_
    refine wk_sipush xd_e6536ce2 ?_
    refine wk_icmp xd_4eeeb636 (t := 178) rfl (fun h64_0 => ?_) (fun h64_0 => ?_)
    · have h64_0 := aw_ge_t (a := ((k : Int) : Int)) (b := (256 : Int)) (hk_to k (by omega)) (show (((Int16.ofInt 256).toInt32)).toInt = 256 from by decide) h64_0
      exact hk w z1 z2 _ _ _ _ (by rw [show 256 = k from by omega]; exact hI)
    · have h64_0 := aw_ge_f (a := ((k : Int) : Int)) (b := (256 : Int)) (hk_to k (by omega)) (show (((Int16.ofInt 256).toInt32)).toInt = 256 from by decide) h64_0
      exfalso
      omega
  | succ f ih =>
    intro k z1 z2 o4 o5 o6 w hfk hI
    obtain ⟨hz1, hz2, hse, hfr, hf2⟩ := id hI
    obtain ⟨S0, hS0e⟩ : ∃ S0 : Nat, S0 = ((((List.range k).map (fun k => Int32.ofNat k)).filter (at_pt F)).foldl (at_sr (at_P (fun j => w0.1 186 (25 + j)) F (w0.1 186 4) (w0.1 185 0 &&& ((Int16.ofInt 255).toInt32)) (w0.1 185 1 &&& ((Int16.ofInt 255).toInt32)))) (0, (fun _ => Int32.ofInt 0), Int32.ofInt 15)).1 := ⟨_, rfl⟩
    rw [← hS0e] at hz1
    have hFw : (w.1 186 1).toInt = (F : Int) := by rw [hfr 186 1 (by omega)]; exact hF
    have hSw : (w.1 186 4).toInt = (S : Int) := by rw [hfr 186 4 (by omega)]; exact hS
    have hcnt : S0 ≤ k := by
      have e9 : ∀ (l : List Int32) (a : at_S), (l.foldl (at_sr (at_P (fun j => w0.1 186 (25 + j)) F (w0.1 186 4) (w0.1 185 0 &&& ((Int16.ofInt 255).toInt32)) (w0.1 185 1 &&& ((Int16.ofInt 255).toInt32)))) a).1 ≤ a.1 + l.length := by
        intro l
        induction l with
        | nil => exact fun a => Nat.le_refl _
        | cons p l ih =>
          intro a
          have h1 := ih (at_sr (at_P (fun j => w0.1 186 (25 + j)) F (w0.1 186 4) (w0.1 185 0 &&& ((Int16.ofInt 255).toInt32)) (w0.1 185 1 &&& ((Int16.ofInt 255).toInt32))) a p)
          have h2 : (at_sr (at_P (fun j => w0.1 186 (25 + j)) F (w0.1 186 4) (w0.1 185 0 &&& ((Int16.ofInt 255).toInt32)) (w0.1 185 1 &&& ((Int16.ofInt 255).toInt32))) a p).1 ≤ a.1 + 1 := by
            unfold at_sr
            split
            · exact Nat.le_refl _
            · exact Nat.le_succ _
          show (l.foldl (at_sr (at_P (fun j => w0.1 186 (25 + j)) F (w0.1 186 4) (w0.1 185 0 &&& ((Int16.ofInt 255).toInt32)) (w0.1 185 1 &&& ((Int16.ofInt 255).toInt32)))) (at_sr (at_P (fun j => w0.1 186 (25 + j)) F (w0.1 186 4) (w0.1 185 0 &&& ((Int16.ofInt 255).toInt32)) (w0.1 185 1 &&& ((Int16.ofInt 255).toInt32))) a p)).1 ≤ a.1 + (l.length + 1)
          omega
      have e8 := e9 (((List.range k).map (fun k => Int32.ofNat k)).filter (at_pt F)) (0, (fun _ => Int32.ofInt 0), Int32.ofInt 15)
      have e7 := List.length_filter_le (at_pt F) ((List.range k).map (fun k => Int32.ofNat k))
      rw [List.length_map, List.length_range] at e7
      have e6 : ((0, (fun _ => Int32.ofInt 0), Int32.ofInt 15) : at_S).1 = 0 := rfl
      rw [hS0e]
      omega
    refine wk_iload_n xd_ab5f66da rfl ?_
    refine wk_sipush xd_e6536ce2 ?_
    refine wk_icmp xd_4eeeb636 (t := 178) rfl (fun h64_1 => ?_) (fun h64_1 => ?_)
    · have h64_1 := aw_ge_t (a := ((k : Int) : Int)) (b := (256 : Int)) (hk_to k (by omega)) (show (((Int16.ofInt 256).toInt32)).toInt = 256 from by decide) h64_1
      exfalso
      omega
    · have h64_1 := aw_ge_f (a := ((k : Int) : Int)) (b := (256 : Int)) (hk_to k (by omega)) (show (((Int16.ofInt 256).toInt32)).toInt = 256 from by decide) h64_1
      refine wk_aload_n xd_c04557c9 rfl ?_
      refine wk_iload_n xd_abe625fc rfl ?_
      have hCp := hpl_ok (Int32.ofNat k) w (by omega) (by omega)
      have hpt2 : hpt w (Int32.ofNat k) = at_pt F (Int32.ofNat k) := by unfold hpt at_pt; rw [show (w.1 186 1).toInt.toNat = F from by omega]
      rw [hpt2] at hCp
      refine wk_call (kd := 0) (i := 325) xd_7acb1166 rfl (wk_cal (as := [.inr (.inr (some 184)), .inl (Int32.ofNat k)]) (t := []) xl_bf831a84 rfl xn_f62f9721 xc_81482482 rfl rfl xv_495f37e9 rfl) (cm_C_mono (by omega) hCp) ?_
      refine wk_if xd_fadd3a35 (t := 88) rfl (fun h72_2 => ?_) (fun h72_2 => ?_)
      · have h72_2 := aw_eq_t (a := ((hbI (at_pt F (Int32.ofNat k))).toInt : Int)) (b := (0 : Int)) rfl hb_z h72_2
        have hpf : at_pt F (Int32.ofNat k) = false := (hbI_0 (b := at_pt F (Int32.ofNat k)) (c := true) (decide_eq_true (Int32.toInt_inj.mp (by have e9 := hb_z; omega)))).1 rfl
        have hrng : ((((List.range (k + 1)).map (fun k => Int32.ofNat k)).filter (at_pt F)).foldl (at_sr (at_P (fun j => w0.1 186 (25 + j)) F (w0.1 186 4) (w0.1 185 0 &&& ((Int16.ofInt 255).toInt32)) (w0.1 185 1 &&& ((Int16.ofInt 255).toInt32)))) (0, (fun _ => Int32.ofInt 0), Int32.ofInt 15)) = (List.filter (at_pt F) [(Int32.ofNat k)]).foldl (at_sr (at_P (fun j => w0.1 186 (25 + j)) F (w0.1 186 4) (w0.1 185 0 &&& ((Int16.ofInt 255).toInt32)) (w0.1 185 1 &&& ((Int16.ofInt 255).toInt32)))) ((((List.range k).map (fun k => Int32.ofNat k)).filter (at_pt F)).foldl (at_sr (at_P (fun j => w0.1 186 (25 + j)) F (w0.1 186 4) (w0.1 185 0 &&& ((Int16.ofInt 255).toInt32)) (w0.1 185 1 &&& ((Int16.ofInt 255).toInt32)))) (0, (fun _ => Int32.ofInt 0), Int32.ofInt 15)) := by
          rw [List.range_succ, List.map_append, List.filter_append, List.foldl_append]
          rfl
        rw [List.filter_cons_of_neg (by rw [hpf]; decide)] at hrng
        have hnx : ((((List.range (k + 1)).map (fun k => Int32.ofNat k)).filter (at_pt F)).foldl (at_sr (at_P (fun j => w0.1 186 (25 + j)) F (w0.1 186 4) (w0.1 185 0 &&& ((Int16.ofInt 255).toInt32)) (w0.1 185 1 &&& ((Int16.ofInt 255).toInt32)))) (0, (fun _ => Int32.ofInt 0), Int32.ofInt 15)) = ((((List.range k).map (fun k => Int32.ofNat k)).filter (at_pt F)).foldl (at_sr (at_P (fun j => w0.1 186 (25 + j)) F (w0.1 186 4) (w0.1 185 0 &&& ((Int16.ofInt 255).toInt32)) (w0.1 185 1 &&& ((Int16.ofInt 255).toInt32)))) (0, (fun _ => Int32.ofInt 0), Int32.ofInt 15)) := hrng
        refine wk_iconst xd_a5124d9e ?_
        refine wk_istore xd_94a6dffa (by rw [xm_68071159]; rfl) rfl ?_
        refine wk_iload xd_b2334b89 rfl ?_
        refine wk_if xd_2c080b21 (t := 172) rfl (fun _ => ?_) (fun h => absurd (aw_lt_f (show ((Int32.ofInt (-1))).toInt = (-1) from by decide) hb_z h) (by omega))
        refine aw_iinc (a := ((k : Int) : Int)) (b := (1 : Int)) (e := ((k : Int) + 1 : Int)) xd_75b9f016 (by rw [xm_68071159]; rfl) rfl rfl (hk_to k (by omega)) (show ((Int32.ofInt 1)).toInt = 1 from by decide) (by omega) (by omega) (by omega) (fun v5_ p5_ => ?_)
        refine wk_goto xd_f951f9e5 (t := 60) rfl ?_
        rw [hk_of (x := v5_) (j := k + 1) (by omega) (by omega)]
        exact ih (k + 1) _ _ _ _ _ w (by omega) (by rw [hnx]; exact hI)
      · have h72_2 := aw_eq_f (a := ((hbI (at_pt F (Int32.ofNat k))).toInt : Int)) (b := (0 : Int)) rfl hb_z h72_2
        have hpf : at_pt F (Int32.ofNat k) = true := by
          cases e9 : at_pt F (Int32.ofNat k) with
          | true => rfl
          | false =>
            rw [e9] at h72_2
            exact absurd (show (hbI false).toInt = 0 from by decide) h72_2
        have hrng : ((((List.range (k + 1)).map (fun k => Int32.ofNat k)).filter (at_pt F)).foldl (at_sr (at_P (fun j => w0.1 186 (25 + j)) F (w0.1 186 4) (w0.1 185 0 &&& ((Int16.ofInt 255).toInt32)) (w0.1 185 1 &&& ((Int16.ofInt 255).toInt32)))) (0, (fun _ => Int32.ofInt 0), Int32.ofInt 15)) = (List.filter (at_pt F) [(Int32.ofNat k)]).foldl (at_sr (at_P (fun j => w0.1 186 (25 + j)) F (w0.1 186 4) (w0.1 185 0 &&& ((Int16.ofInt 255).toInt32)) (w0.1 185 1 &&& ((Int16.ofInt 255).toInt32)))) ((((List.range k).map (fun k => Int32.ofNat k)).filter (at_pt F)).foldl (at_sr (at_P (fun j => w0.1 186 (25 + j)) F (w0.1 186 4) (w0.1 185 0 &&& ((Int16.ofInt 255).toInt32)) (w0.1 185 1 &&& ((Int16.ofInt 255).toInt32)))) (0, (fun _ => Int32.ofInt 0), Int32.ofInt 15)) := by
          rw [List.range_succ, List.map_append, List.filter_append, List.foldl_append]
          rfl
        rw [List.filter_cons_of_pos (by rw [hpf])] at hrng
        have hnx : ((((List.range (k + 1)).map (fun k => Int32.ofNat k)).filter (at_pt F)).foldl (at_sr (at_P (fun j => w0.1 186 (25 + j)) F (w0.1 186 4) (w0.1 185 0 &&& ((Int16.ofInt 255).toInt32)) (w0.1 185 1 &&& ((Int16.ofInt 255).toInt32)))) (0, (fun _ => Int32.ofInt 0), Int32.ofInt 15)) = at_sr (at_P (fun j => w0.1 186 (25 + j)) F (w0.1 186 4) (w0.1 185 0 &&& ((Int16.ofInt 255).toInt32)) (w0.1 185 1 &&& ((Int16.ofInt 255).toInt32))) ((((List.range k).map (fun k => Int32.ofNat k)).filter (at_pt F)).foldl (at_sr (at_P (fun j => w0.1 186 (25 + j)) F (w0.1 186 4) (w0.1 185 0 &&& ((Int16.ofInt 255).toInt32)) (w0.1 185 1 &&& ((Int16.ofInt 255).toInt32)))) (0, (fun _ => Int32.ofInt 0), Int32.ofInt 15)) (Int32.ofNat k) := hrng
        have hH : (hbhF w (w0.1 185 0 &&& ((Int16.ofInt 255).toInt32)) (Int32.ofNat k)) = at_H (fun j => w0.1 186 (25 + j)) F (w0.1 185 0 &&& ((Int16.ofInt 255).toInt32)) (Int32.ofNat k) := by
          unfold hbhF at_H
          rw [show (fun j => w.1 186 (25 + j)) = (fun j => w0.1 186 (25 + j)) from funext fun j => hfr 186 _ (by omega)]
          have e9 := at_hbc (st := fun j => w0.1 186 (25 + j)) (p := (Int32.ofNat k)) (4 - F) F 0 (Int32.ofInt 0) (Int32.ofInt 0) (fun i a b => at_hpl (4 - F) F _ hpf i (by omega) (by omega))
          rw [show F + (4 - F) = 4 from by omega] at e9
          rw [← e9]
        refine wk_aload_n xd_acf6e107 rfl ?_
        refine wk_aload_n xd_da13d83a rfl ?_
        refine wk_iconst xd_9c79b082 ?_
        have hCo78 := roc_ok (w := w) (q := 0) (show ((Int32.ofInt 0)).toInt = 0 from by decide) (by omega)
        rw [hfr 185 0 (by omega)] at hCo78
        refine wk_call (kd := 0) (i := 347) xd_296f4c60 rfl (wk_cal (as := [.inr (.inr (some 184)), .inl (Int32.ofInt 0)]) (t := [.inr (.inr (some 184))]) xl_05a9447c rfl xn_47b317e4 xc_5c671289 rfl rfl xv_00384739 rfl) (cm_C_mono (by omega) hCo78) ?_
        refine wk_iload_n xd_521ce2e0 rfl ?_
        refine wk_call (kd := 0) (i := 328) xd_4c178947 rfl (wk_cal (as := [.inr (.inr (some 184)), .inl (w0.1 185 0 &&& ((Int16.ofInt 255).toInt32)), .inl (Int32.ofNat k)]) (t := []) xl_f34bedff rfl xn_f1802f0c xc_b3a88ae2 rfl rfl xv_36a90576 rfl) (cm_C_mono (by omega) (hbh_ok (w0.1 185 0 &&& ((Int16.ofInt 255).toInt32)) (Int32.ofNat k) w)) ?_
        refine wk_goto xd_70239475 (t := 89) rfl ?_
        refine wk_istore xd_94a6dffa (by rw [xm_68071159]; rfl) rfl ?_
        refine wk_iload xd_b2334b89 rfl ?_
        refine wk_if xd_2c080b21 (t := 172) rfl (fun h93_5 => ?_) (fun h93_5 => ?_)
        · have h93_5 := aw_lt_t (a := ((hbhF w (w0.1 185 0 &&& ((Int16.ofInt 255).toInt32)) (Int32.ofNat k)).toInt : Int)) (b := (0 : Int)) rfl hb_z h93_5
          have hno : ¬ (at_P (fun j => w0.1 186 (25 + j)) F (w0.1 186 4) (w0.1 185 0 &&& ((Int16.ofInt 255).toInt32)) (w0.1 185 1 &&& ((Int16.ofInt 255).toInt32))) (Int32.ofNat k) = true := fun e9 => by
            unfold at_P at e9
            rw [← hH, decide_eq_true (show (hbhF w (w0.1 185 0 &&& ((Int16.ofInt 255).toInt32)) (Int32.ofNat k)) < 0 from by rw [Int32.lt_iff_toInt_lt]; have e8 := hb_z; omega)] at e9
            cases e9
          have hnx := hnx.trans (at_sr_n (P := (at_P (fun j => w0.1 186 (25 + j)) F (w0.1 186 4) (w0.1 185 0 &&& ((Int16.ofInt 255).toInt32)) (w0.1 185 1 &&& ((Int16.ofInt 255).toInt32)))) (p := (Int32.ofNat k)) hno)
          refine aw_iinc (a := ((k : Int) : Int)) (b := (1 : Int)) (e := ((k : Int) + 1 : Int)) xd_75b9f016 (by rw [xm_68071159]; rfl) rfl rfl (hk_to k (by omega)) (show ((Int32.ofInt 1)).toInt = 1 from by decide) (by omega) (by omega) (by omega) (fun v7_ p7_ => ?_)
          refine wk_goto xd_f951f9e5 (t := 60) rfl ?_
          rw [hk_of (x := v7_) (j := k + 1) (by omega) (by omega)]
          exact ih (k + 1) _ _ _ _ _ w (by omega) (by rw [hnx]; exact hI)
        · have h93_5 := aw_lt_f (a := ((hbhF w (w0.1 185 0 &&& ((Int16.ofInt 255).toInt32)) (Int32.ofNat k)).toInt : Int)) (b := (0 : Int)) rfl hb_z h93_5
          have hge : ¬ (hbhF w (w0.1 185 0 &&& ((Int16.ofInt 255).toInt32)) (Int32.ofNat k)) < 0 := by rw [Int32.lt_iff_toInt_lt]; have e8 := hb_z; omega
          refine wk_iload xd_dbd4cdd1 rfl ?_
          refine wk_aload_n xd_55508788 rfl ?_
          refine wk_getR xf_a3da6af7 xd_512f3b01 ?_
          refine wk_iconst xd_5ff1ee75 ?_
          refine aw_iaload (i := 4) xf_31d67ad9 (show ((Int32.ofInt 4)).toInt = 4 from by decide) (by omega) (by omega) xd_4df56861 ?_
          refine wk_idiv xd_c8636477 (fun e9 => by have e8 := (show ((w.1 186 4)).toInt = ((S : Int) : Int) from hSw); rw [e9] at e8; have e7 := hb_z; omega) ?_
          refine wk_aload_n xd_8f5207b7 rfl ?_
          refine wk_iconst xd_cbb0f205 ?_
          have hCo107 := roc_ok (w := w) (q := 1) (show ((Int32.ofInt 1)).toInt = 1 from by decide) (by omega)
          rw [hfr 185 1 (by omega)] at hCo107
          refine wk_call (kd := 0) (i := 347) xd_c48dd379 rfl (wk_cal (as := [.inr (.inr (some 184)), .inl (Int32.ofInt 1)]) (t := [.inl ((hbhF w (w0.1 185 0 &&& ((Int16.ofInt 255).toInt32)) (Int32.ofNat k)) / (w.1 186 4))]) xl_05a9447c rfl xn_47b317e4 xc_5c671289 rfl rfl xv_00384739 rfl) (cm_C_mono (by omega) hCo107) ?_
          refine wk_icmp xd_52d840ee (t := 116) rfl (fun h110_7 => ?_) (fun h110_7 => ?_)
          · have h110_7 := aw_eq_t (a := (((hbhF w (w0.1 185 0 &&& ((Int16.ofInt 255).toInt32)) (Int32.ofNat k)) / (w.1 186 4)).toInt : Int)) (b := ((w0.1 185 1 &&& ((Int16.ofInt 255).toInt32)).toInt : Int)) rfl rfl h110_7
            have hye : (at_P (fun j => w0.1 186 (25 + j)) F (w0.1 186 4) (w0.1 185 0 &&& ((Int16.ofInt 255).toInt32)) (w0.1 185 1 &&& ((Int16.ofInt 255).toInt32))) (Int32.ofNat k) = true := by
              unfold at_P
              rw [← hH, decide_eq_false hge, ← hfr 186 4 (by omega)]
              exact decide_eq_true (Int32.toInt_inj.mp h110_7)
            have hnx := hnx.trans (at_sr_y (P := (at_P (fun j => w0.1 186 (25 + j)) F (w0.1 186 4) (w0.1 185 0 &&& ((Int16.ofInt 255).toInt32)) (w0.1 185 1 &&& ((Int16.ofInt 255).toInt32)))) (p := (Int32.ofNat k)) hye)
            refine aw_iinc (a := ((S0 : Int) : Int)) (b := (1 : Int)) (e := ((S0 : Int) + 1 : Int)) xd_534d0045 (by rw [xm_68071159]; rfl) rfl rfl hz1 (show ((Int32.ofInt 1)).toInt = 1 from by decide) (by omega) (by omega) (by omega) (fun v9_ p9_ => ?_)
            refine wk_iconst xd_b1392921 ?_
            refine wk_istore xd_e1bab31c (by rw [xm_68071159]; rfl) rfl ?_
            refine rat_in (p := (Int32.ofNat k)) _ 4 0 _ _ w rfl (fun w1 g1 g2 g3 v5 o6 => ?_)
            refine aw_iinc (a := ((k : Int) : Int)) (b := (1 : Int)) (e := ((k : Int) + 1 : Int)) xd_75b9f016 (by rw [xm_68071159]; rfl) rfl rfl (hk_to k (by omega)) (show ((Int32.ofInt 1)).toInt = 1 from by decide) (by omega) (by omega) (by omega) (fun v10_ p10_ => ?_)
            refine wk_goto xd_f951f9e5 (t := 60) rfl ?_
            rw [hk_of (x := v10_) (j := k + 1) (by omega) (by omega)]
            refine ih (k + 1) _ _ _ _ _ w1 (by omega) ?_
            rw [hnx]
            refine ⟨?_, ?_, fun i hi => ?_, fun q i hq => (g2 q i hq).trans (hfr q i hq), g3.trans hf2⟩
            · rw [p9_, hS0e]
              rfl
            · rw [hz2]
            · rw [g1 i, if_pos (by omega), hse i hi]
              show _ = at_sn 4 ((((List.range k).map (fun k => Int32.ofNat k)).filter (at_pt F)).foldl (at_sr (at_P (fun j => w0.1 186 (25 + j)) F (w0.1 186 4) (w0.1 185 0 &&& ((Int16.ofInt 255).toInt32)) (w0.1 185 1 &&& ((Int16.ofInt 255).toInt32)))) (0, (fun _ => Int32.ofInt 0), Int32.ofInt 15)).2.1 (Int32.ofNat k) i
              unfold at_sn
              rw [if_pos hi]
          · have h110_7 := aw_eq_f (a := (((hbhF w (w0.1 185 0 &&& ((Int16.ofInt 255).toInt32)) (Int32.ofNat k)) / (w.1 186 4)).toInt : Int)) (b := ((w0.1 185 1 &&& ((Int16.ofInt 255).toInt32)).toInt : Int)) rfl rfl h110_7
            have hno : ¬ (at_P (fun j => w0.1 186 (25 + j)) F (w0.1 186 4) (w0.1 185 0 &&& ((Int16.ofInt 255).toInt32)) (w0.1 185 1 &&& ((Int16.ofInt 255).toInt32))) (Int32.ofNat k) = true := fun e9 => by
              unfold at_P at e9
              rw [← hH, decide_eq_false hge, ← hfr 186 4 (by omega)] at e9
              exact h110_7 (congrArg Int32.toInt (of_decide_eq_true e9))
            have hnx := hnx.trans (at_sr_n (P := (at_P (fun j => w0.1 186 (25 + j)) F (w0.1 186 4) (w0.1 185 0 &&& ((Int16.ofInt 255).toInt32)) (w0.1 185 1 &&& ((Int16.ofInt 255).toInt32)))) (p := (Int32.ofNat k)) hno)
            refine wk_goto xd_8c767d12 (t := 172) rfl ?_
            refine aw_iinc (a := ((k : Int) : Int)) (b := (1 : Int)) (e := ((k : Int) + 1 : Int)) xd_75b9f016 (by rw [xm_68071159]; rfl) rfl rfl (hk_to k (by omega)) (show ((Int32.ofInt 1)).toInt = 1 from by decide) (by omega) (by omega) (by omega) (fun v11_ p11_ => ?_)
            refine wk_goto xd_f951f9e5 (t := 60) rfl ?_
            rw [hk_of (x := v11_) (j := k + 1) (by omega) (by omega)]
            exact ih (k + 1) _ _ _ _ _ w (by omega) (by rw [hnx]; exact hI)
theorem rat_ok {w : cm_W} {F S n : Nat} (hn : (w.1 184 2).toInt = (n : Int)) (hF : (w.1 186 1).toInt = (F : Int)) (hF4 : F ≤ 4) (hS : (w.1 186 4).toInt = (S : Int)) (hS0 : 0 < S) (hd : 0 ≤ (w.1 185 1 &&& ((Int16.ofInt 255).toInt32)).toInt) (hbd : ∀ i, i < F → 0 ≤ (((at_M F).foldl (at_sr (at_P (fun j => w.1 186 (25 + j)) F (w.1 186 4) (w.1 185 0 &&& ((Int16.ofInt 255).toInt32)) (w.1 185 1 &&& ((Int16.ofInt 255).toInt32)))) (0, (fun _ => Int32.ofInt 0), Int32.ofInt 15)).2.1 i).toInt ∧ (((at_M F).foldl (at_sr (at_P (fun j => w.1 186 (25 + j)) F (w.1 186 4) (w.1 185 0 &&& ((Int16.ofInt 255).toInt32)) (w.1 185 1 &&& ((Int16.ofInt 255).toInt32)))) (0, (fun _ => Int32.ofInt 0), Int32.ofInt 15)).2.1 i).toInt ≤ 15) : ∃ x w', cm_C 6 92 [.inr (.inr (some 184))] w (some (.inl x), w') ∧ ((¬ (n = 2 ∧ (w.1 185 0 &&& ((Int16.ofInt 255).toInt32)).toInt ≤ 199) ∧ x = Int32.ofInt (-1) ∧ (∀ k i, ¬ (k = 184 ∧ (i = 0 ∨ (2 ≤ i ∧ i ≤ 5))) → w'.1 k i = w.1 k i) ∧ w'.2 = w.2 ∧ (w'.1 184 2).toInt = 0) ∨ (n = 2 ∧ (w.1 185 0 &&& ((Int16.ofInt 255).toInt32)).toInt ≤ 199 ∧ x.toInt = (((at_M F).foldl (at_sr (at_P (fun j => w.1 186 (25 + j)) F (w.1 186 4) (w.1 185 0 &&& ((Int16.ofInt 255).toInt32)) (w.1 185 1 &&& ((Int16.ofInt 255).toInt32)))) (0, (fun _ => Int32.ofInt 0), Int32.ofInt 15)).1 : Int) ∧ (∀ k i, ¬ (k = 184 ∧ (i = 0 ∨ (2 ≤ i ∧ i ≤ 5))) → k ≠ 195 → ¬ (k = 184 ∧ 28 ≤ i ∧ i ≤ 30) → w'.1 k i = w.1 k i) ∧ w'.2 = w.2 ∧ (w'.1 184 2).toInt = 0 ∧ ((((at_M F).foldl (at_sr (at_P (fun j => w.1 186 (25 + j)) F (w.1 186 4) (w.1 185 0 &&& ((Int16.ofInt 255).toInt32)) (w.1 185 1 &&& ((Int16.ofInt 255).toInt32)))) (0, (fun _ => Int32.ofInt 0), Int32.ofInt 15)).1 = 0 ∧ w'.1 184 28 = w.1 184 28 ∧ w'.1 184 29 = w.1 184 29 ∧ w'.1 184 30 = w.1 184 30) ∨ (((at_M F).foldl (at_sr (at_P (fun j => w.1 186 (25 + j)) F (w.1 186 4) (w.1 185 0 &&& ((Int16.ofInt 255).toInt32)) (w.1 185 1 &&& ((Int16.ofInt 255).toInt32)))) (0, (fun _ => Int32.ofInt 0), Int32.ofInt 15)).1 ≠ 0 ∧ w'.1 184 28 = ((at_M F).foldl (at_sr (at_P (fun j => w.1 186 (25 + j)) F (w.1 186 4) (w.1 185 0 &&& ((Int16.ofInt 255).toInt32)) (w.1 185 1 &&& ((Int16.ofInt 255).toInt32)))) (0, (fun _ => Int32.ofInt 0), Int32.ofInt 15)).2.2 ∧ w'.1 184 29 = at_mu ((at_M F).foldl (at_sr (at_P (fun j => w.1 186 (25 + j)) F (w.1 186 4) (w.1 185 0 &&& ((Int16.ofInt 255).toInt32)) (w.1 185 1 &&& ((Int16.ofInt 255).toInt32)))) (0, (fun _ => Int32.ofInt 0), Int32.ofInt 15)).2.1 F 0 (Int32.ofInt (-1)) (Int32.ofInt 0) ∧ (w'.1 184 30).toInt = 1)))) := by
  have h : ∃ o, cm_C (5 + 1) 92 [.inr (.inr (some 184))] w o ∧ (fun o : cm_O => ∃ x w', o = (some (.inl x), w') ∧ ((¬ (n = 2 ∧ (w.1 185 0 &&& ((Int16.ofInt 255).toInt32)).toInt ≤ 199) ∧ x = Int32.ofInt (-1) ∧ (∀ k i, ¬ (k = 184 ∧ (i = 0 ∨ (2 ≤ i ∧ i ≤ 5))) → w'.1 k i = w.1 k i) ∧ w'.2 = w.2 ∧ (w'.1 184 2).toInt = 0) ∨ (n = 2 ∧ (w.1 185 0 &&& ((Int16.ofInt 255).toInt32)).toInt ≤ 199 ∧ x.toInt = (((at_M F).foldl (at_sr (at_P (fun j => w.1 186 (25 + j)) F (w.1 186 4) (w.1 185 0 &&& ((Int16.ofInt 255).toInt32)) (w.1 185 1 &&& ((Int16.ofInt 255).toInt32)))) (0, (fun _ => Int32.ofInt 0), Int32.ofInt 15)).1 : Int) ∧ (∀ k i, ¬ (k = 184 ∧ (i = 0 ∨ (2 ≤ i ∧ i ≤ 5))) → k ≠ 195 → ¬ (k = 184 ∧ 28 ≤ i ∧ i ≤ 30) → w'.1 k i = w.1 k i) ∧ w'.2 = w.2 ∧ (w'.1 184 2).toInt = 0 ∧ ((((at_M F).foldl (at_sr (at_P (fun j => w.1 186 (25 + j)) F (w.1 186 4) (w.1 185 0 &&& ((Int16.ofInt 255).toInt32)) (w.1 185 1 &&& ((Int16.ofInt 255).toInt32)))) (0, (fun _ => Int32.ofInt 0), Int32.ofInt 15)).1 = 0 ∧ w'.1 184 28 = w.1 184 28 ∧ w'.1 184 29 = w.1 184 29 ∧ w'.1 184 30 = w.1 184 30) ∨ (((at_M F).foldl (at_sr (at_P (fun j => w.1 186 (25 + j)) F (w.1 186 4) (w.1 185 0 &&& ((Int16.ofInt 255).toInt32)) (w.1 185 1 &&& ((Int16.ofInt 255).toInt32)))) (0, (fun _ => Int32.ofInt 0), Int32.ofInt 15)).1 ≠ 0 ∧ w'.1 184 28 = ((at_M F).foldl (at_sr (at_P (fun j => w.1 186 (25 + j)) F (w.1 186 4) (w.1 185 0 &&& ((Int16.ofInt 255).toInt32)) (w.1 185 1 &&& ((Int16.ofInt 255).toInt32)))) (0, (fun _ => Int32.ofInt 0), Int32.ofInt 15)).2.2 ∧ w'.1 184 29 = at_mu ((at_M F).foldl (at_sr (at_P (fun j => w.1 186 (25 + j)) F (w.1 186 4) (w.1 185 0 &&& ((Int16.ofInt 255).toInt32)) (w.1 185 1 &&& ((Int16.ofInt 255).toInt32)))) (0, (fun _ => Int32.ofInt 0), Int32.ofInt 15)).2.1 F 0 (Int32.ofInt (-1)) (Int32.ofInt 0) ∧ (w'.1 184 30).toInt = 1))))) o := by
    refine wk_entry (by rw [xm_68071159]; exact Nat.le_of_ble_eq_true rfl) ?_
    rw [show cm_ent 92 [.inr (.inr (some 184))] = [some (.inr (.inr (some 184))), none, none, none, none, none, none] from by unfold cm_ent; rw [xm_68071159]; rfl]
    refine wk_aload_n xd_8cdc6f49 rfl ?_
    refine wk_iconst xd_e00ae0b7 ?_
    refine wk_putI xf_abb94fae (fun ci => wk_fitI ci) xd_1aa0f98b ?_
    refine wk_aload_n xd_17f3240e rfl ?_
    refine wk_sipush xd_4dbc0405 ?_
    refine wk_call (kd := 0) (i := 232) xd_e2aa137c rfl (wk_cal (as := [.inr (.inr (some 184)), .inl ((Int16.ofInt 940).toInt32)]) (t := []) xl_162bf9e3 rfl xn_8a0f2cb7 xc_11bee548 rfl rfl xv_8b88ab9c rfl) (cm_C_mono (by omega) (mk_ok (w := (cm_u1 w 184 0 (Int32.ofInt 0))) (a := ((Int16.ofInt 940).toInt32)))) ?_
    refine wk_aload_n xd_6a722bf9 rfl ?_
    refine wk_getI xf_56ab7564 xd_8273334d ?_
    refine wk_iconst xd_1c5bf558 ?_
    refine wk_icmp xd_719e1ba0 (t := 31) rfl (fun h17_0 => ?_) (fun h17_0 => ?_)
    · have h17_0 := aw_ne_t (a := ((n : Int) : Int)) (b := (2 : Int)) (show (((cm_u1 (cm_u1 (cm_u1 (cm_u1 (cm_u1 w 184 0 (Int32.ofInt 0)) 184 3 ((cm_u1 w 184 0 (Int32.ofInt 0)).1 184 2)) 184 2 (Int32.ofInt 0)) 184 4 (Int32.ofInt 0)) 184 5 ((Int16.ofInt 940).toInt32)).1 184 3)).toInt = ((n : Int) : Int) from hn) (show ((Int32.ofInt 2)).toInt = 2 from by decide) h17_0
      refine wk_iconst xd_8bec8e63 ?_
      exact wk_ireturn xd_1f4d984f xr_c9601f76 rfl ⟨_, _, rfl, .inl ⟨by omega, rfl, fun k i hk => by rw [hs_u1_ne (by omega), hs_u1_ne (by omega), hs_u1_ne (by omega), hs_u1_ne (by omega), hs_u1_ne (by omega)], rfl, by rw [hs_u1_ne (by omega), hs_u1_ne (by omega), hs_u1_self]; decide⟩⟩
    · have h17_0 := aw_ne_f (a := ((n : Int) : Int)) (b := (2 : Int)) (show (((cm_u1 (cm_u1 (cm_u1 (cm_u1 (cm_u1 w 184 0 (Int32.ofInt 0)) 184 3 ((cm_u1 w 184 0 (Int32.ofInt 0)).1 184 2)) 184 2 (Int32.ofInt 0)) 184 4 (Int32.ofInt 0)) 184 5 ((Int16.ofInt 940).toInt32)).1 184 3)).toInt = ((n : Int) : Int) from hn) (show ((Int32.ofInt 2)).toInt = 2 from by decide) h17_0
      refine wk_aload_n xd_dffa5138 rfl ?_
      refine wk_iconst xd_75a7a145 ?_
      refine wk_call (kd := 0) (i := 347) xd_c3cfc4ca rfl (wk_cal (as := [.inr (.inr (some 184)), .inl (Int32.ofInt 0)]) (t := []) xl_05a9447c rfl xn_47b317e4 xc_5c671289 rfl rfl xv_00384739 rfl) (cm_C_mono (by omega) (roc_ok (w := (cm_u1 (cm_u1 (cm_u1 (cm_u1 (cm_u1 w 184 0 (Int32.ofInt 0)) 184 3 ((cm_u1 w 184 0 (Int32.ofInt 0)).1 184 2)) 184 2 (Int32.ofInt 0)) 184 4 (Int32.ofInt 0)) 184 5 ((Int16.ofInt 940).toInt32))) (q := 0) (show ((Int32.ofInt 0)).toInt = 0 from by decide) (by omega))) ?_
      refine wk_sipush xd_b092f571 ?_
      refine wk_icmp xd_85e25121 (t := 33) rfl (fun h28_1 => ?_) (fun h28_1 => ?_)
      · have h28_1 := aw_le_t (a := ((w.1 185 0 &&& ((Int16.ofInt 255).toInt32)).toInt : Int)) (b := (199 : Int)) rfl (show (((Int16.ofInt 199).toInt32)).toInt = 199 from by decide) h28_1
        refine wk_iconst xd_c0848211 ?_
        refine wk_istore_n xd_79416d78 (by rw [xm_68071159]; rfl) rfl ?_
        refine wk_bipush xd_8b08036c ?_
        refine wk_istore_n xd_66ffbe80 (by rw [xm_68071159]; rfl) rfl ?_
        refine wk_iconst xd_40bf0951 ?_
        refine wk_istore_n xd_39aff9de (by rw [xm_68071159]; rfl) rfl ?_
        refine wk_iload_n xd_7264aad5 rfl ?_
        refine wk_iconst xd_6ded75ff ?_
        refine wk_icmp xd_94f64c07 (t := 58) rfl (fun h => absurd (aw_ge_t (show ((Int32.ofInt 0)).toInt = 0 from by decide) (show ((Int32.ofInt 4)).toInt = 4 from by decide) h) (by omega)) (fun _ => ?_)
        refine wk_aload_n xd_f4e8482f rfl ?_
        refine wk_getR xf_158968c2 xd_0cc9e949 ?_
        refine wk_iload_n xd_e9ae0327 rfl ?_
        refine wk_iconst xd_14365d2b ?_
        refine aw_iastore (i := 0) xf_058027d6 (show ((Int32.ofInt 0)).toInt = 0 from by decide) (by omega) (by omega) xd_b19fb3ad ?_
        refine aw_iinc (a := (0 : Int)) (b := (1 : Int)) (e := (1 : Int)) xd_9317b4a6 (by rw [xm_68071159]; rfl) rfl rfl (show ((Int32.ofInt 0)).toInt = 0 from by decide) (show ((Int32.ofInt 1)).toInt = 1 from by decide) (by omega) (by omega) (by omega) (fun v4_ p4_ => ?_)
        refine wk_goto xd_eef0be27 (t := 40) rfl ?_
        refine wk_iload_n xd_7264aad5 rfl ?_
        refine wk_iconst xd_6ded75ff ?_
        refine wk_icmp xd_94f64c07 (t := 58) rfl (fun h => absurd (aw_ge_t p4_ (show ((Int32.ofInt 4)).toInt = 4 from by decide) h) (by omega)) (fun _ => ?_)
        refine wk_aload_n xd_f4e8482f rfl ?_
        refine wk_getR xf_158968c2 xd_0cc9e949 ?_
        refine wk_iload_n xd_e9ae0327 rfl ?_
        refine wk_iconst xd_14365d2b ?_
        refine aw_iastore (i := 1) xf_058027d6 p4_ (by omega) (by omega) xd_b19fb3ad ?_
        refine aw_iinc (a := (1 : Int)) (b := (1 : Int)) (e := (2 : Int)) xd_9317b4a6 (by rw [xm_68071159]; rfl) rfl rfl p4_ (show ((Int32.ofInt 1)).toInt = 1 from by decide) (by omega) (by omega) (by omega) (fun v6_ p6_ => ?_)
        refine wk_goto xd_eef0be27 (t := 40) rfl ?_
        refine wk_iload_n xd_7264aad5 rfl ?_
        refine wk_iconst xd_6ded75ff ?_
        refine wk_icmp xd_94f64c07 (t := 58) rfl (fun h => absurd (aw_ge_t p6_ (show ((Int32.ofInt 4)).toInt = 4 from by decide) h) (by omega)) (fun _ => ?_)
        refine wk_aload_n xd_f4e8482f rfl ?_
        refine wk_getR xf_158968c2 xd_0cc9e949 ?_
        refine wk_iload_n xd_e9ae0327 rfl ?_
        refine wk_iconst xd_14365d2b ?_
        refine aw_iastore (i := 2) xf_058027d6 p6_ (by omega) (by omega) xd_b19fb3ad ?_
        refine aw_iinc (a := (2 : Int)) (b := (1 : Int)) (e := (3 : Int)) xd_9317b4a6 (by rw [xm_68071159]; rfl) rfl rfl p6_ (show ((Int32.ofInt 1)).toInt = 1 from by decide) (by omega) (by omega) (by omega) (fun v8_ p8_ => ?_)
        refine wk_goto xd_eef0be27 (t := 40) rfl ?_
        refine wk_iload_n xd_7264aad5 rfl ?_
        refine wk_iconst xd_6ded75ff ?_
        refine wk_icmp xd_94f64c07 (t := 58) rfl (fun h => absurd (aw_ge_t p8_ (show ((Int32.ofInt 4)).toInt = 4 from by decide) h) (by omega)) (fun _ => ?_)
        refine wk_aload_n xd_f4e8482f rfl ?_
        refine wk_getR xf_158968c2 xd_0cc9e949 ?_
        refine wk_iload_n xd_e9ae0327 rfl ?_
        refine wk_iconst xd_14365d2b ?_
        refine aw_iastore (i := 3) xf_058027d6 p8_ (by omega) (by omega) xd_b19fb3ad ?_
        refine aw_iinc (a := (3 : Int)) (b := (1 : Int)) (e := (4 : Int)) xd_9317b4a6 (by rw [xm_68071159]; rfl) rfl rfl p8_ (show ((Int32.ofInt 1)).toInt = 1 from by decide) (by omega) (by omega) (by omega) (fun v10_ p10_ => ?_)
        refine wk_goto xd_eef0be27 (t := 40) rfl ?_
        refine wk_iload_n xd_7264aad5 rfl ?_
        refine wk_iconst xd_6ded75ff ?_
        refine wk_icmp xd_94f64c07 (t := 58) rfl (fun _ => ?_) (fun h => absurd (aw_ge_f p10_ (show ((Int32.ofInt 4)).toInt = 4 from by decide) h) (by omega))
        refine wk_iconst xd_ad757b2b ?_
        refine wk_istore_n xd_52749578 (by rw [xm_68071159]; rfl) rfl ?_
        have hfw : ∀ k i, ¬ (k = 184 ∧ (i = 0 ∨ (2 ≤ i ∧ i ≤ 5))) → k ≠ 195 → (cm_u1 (cm_u1 (cm_u1 (cm_u1 (cm_u1 (cm_u1 (cm_u1 (cm_u1 (cm_u1 w 184 0 (Int32.ofInt 0)) 184 3 ((cm_u1 w 184 0 (Int32.ofInt 0)).1 184 2)) 184 2 (Int32.ofInt 0)) 184 4 (Int32.ofInt 0)) 184 5 ((Int16.ofInt 940).toInt32)) 195 0 (Int32.ofInt 0)) 195 1 (Int32.ofInt 0)) 195 2 (Int32.ofInt 0)) 195 3 (Int32.ofInt 0)).1 k i = w.1 k i := fun k i h1 h2 => by rw [hs_u1_ne (by omega), hs_u1_ne (by omega), hs_u1_ne (by omega), hs_u1_ne (by omega), hs_u1_ne (by omega), hs_u1_ne (by omega), hs_u1_ne (by omega), hs_u1_ne (by omega), hs_u1_ne (by omega)]
        have hl2 : (cm_u1 (cm_u1 (cm_u1 (cm_u1 (cm_u1 (cm_u1 (cm_u1 (cm_u1 (cm_u1 w 184 0 (Int32.ofInt 0)) 184 3 ((cm_u1 w 184 0 (Int32.ofInt 0)).1 184 2)) 184 2 (Int32.ofInt 0)) 184 4 (Int32.ofInt 0)) 184 5 ((Int16.ofInt 940).toInt32)) 195 0 (Int32.ofInt 0)) 195 1 (Int32.ofInt 0)) 195 2 (Int32.ofInt 0)) 195 3 (Int32.ofInt 0)).1 184 2 = Int32.ofInt 0 := by rw [hs_u1_ne (by omega), hs_u1_ne (by omega), hs_u1_ne (by omega), hs_u1_ne (by omega), hs_u1_ne (by omega), hs_u1_ne (by omega), hs_u1_self]
        refine rat_lp (w0 := (cm_u1 (cm_u1 (cm_u1 (cm_u1 (cm_u1 (cm_u1 (cm_u1 (cm_u1 (cm_u1 w 184 0 (Int32.ofInt 0)) 184 3 ((cm_u1 w 184 0 (Int32.ofInt 0)).1 184 2)) 184 2 (Int32.ofInt 0)) 184 4 (Int32.ofInt 0)) 184 5 ((Int16.ofInt 940).toInt32)) 195 0 (Int32.ofInt 0)) 195 1 (Int32.ofInt 0)) 195 2 (Int32.ofInt 0)) 195 3 (Int32.ofInt 0))) (F := F) (S := S) (by rw [hfw 186 1 (by omega) (by omega)]; exact hF) hF4 (by rw [hfw 186 4 (by omega) (by omega)]; exact hS) hS0 (by rw [hfw 185 1 (by omega) (by omega)]; exact hd) _ (fun w2 z1 z2 v3 o4 o5 o6 hI => ?_) 256 0 _ _ _ _ _ (cm_u1 (cm_u1 (cm_u1 (cm_u1 (cm_u1 (cm_u1 (cm_u1 (cm_u1 (cm_u1 w 184 0 (Int32.ofInt 0)) 184 3 ((cm_u1 w 184 0 (Int32.ofInt 0)).1 184 2)) 184 2 (Int32.ofInt 0)) 184 4 (Int32.ofInt 0)) 184 5 ((Int16.ofInt 940).toInt32)) 195 0 (Int32.ofInt 0)) 195 1 (Int32.ofInt 0)) 195 2 (Int32.ofInt 0)) 195 3 (Int32.ofInt 0)) (by omega) ⟨show (Int32.ofInt 0).toInt = 0 from by decide, show (Int8.ofInt 15).toInt32 = Int32.ofInt 15 from by decide, fun i hi => ?_, fun _ _ _ => rfl, rfl⟩
        rotate_left
        · rcases (show i = 0 ∨ i = 1 ∨ i = 2 ∨ i = 3 by omega) with rfl | rfl | rfl | rfl
          all_goals rfl
        rw [hfw 186 4 (by omega) (by omega), hfw 185 0 (by omega) (by omega), hfw 185 1 (by omega) (by omega), show (fun j => (cm_u1 (cm_u1 (cm_u1 (cm_u1 (cm_u1 (cm_u1 (cm_u1 (cm_u1 (cm_u1 w 184 0 (Int32.ofInt 0)) 184 3 ((cm_u1 w 184 0 (Int32.ofInt 0)).1 184 2)) 184 2 (Int32.ofInt 0)) 184 4 (Int32.ofInt 0)) 184 5 ((Int16.ofInt 940).toInt32)) 195 0 (Int32.ofInt 0)) 195 1 (Int32.ofInt 0)) 195 2 (Int32.ofInt 0)) 195 3 (Int32.ofInt 0)).1 186 (25 + j)) = (fun j => w.1 186 (25 + j)) from funext fun j => hfw 186 _ (by omega) (by omega)] at hI
        have hI : z1.toInt = (((at_M F).foldl (at_sr (at_P (fun j => w.1 186 (25 + j)) F (w.1 186 4) (w.1 185 0 &&& ((Int16.ofInt 255).toInt32)) (w.1 185 1 &&& ((Int16.ofInt 255).toInt32)))) (0, (fun _ => Int32.ofInt 0), Int32.ofInt 15)).1 : Int) ∧ z2 = ((at_M F).foldl (at_sr (at_P (fun j => w.1 186 (25 + j)) F (w.1 186 4) (w.1 185 0 &&& ((Int16.ofInt 255).toInt32)) (w.1 185 1 &&& ((Int16.ofInt 255).toInt32)))) (0, (fun _ => Int32.ofInt 0), Int32.ofInt 15)).2.2 ∧ (∀ i, i < 4 → w2.1 195 i = ((at_M F).foldl (at_sr (at_P (fun j => w.1 186 (25 + j)) F (w.1 186 4) (w.1 185 0 &&& ((Int16.ofInt 255).toInt32)) (w.1 185 1 &&& ((Int16.ofInt 255).toInt32)))) (0, (fun _ => Int32.ofInt 0), Int32.ofInt 15)).2.1 i) ∧ (∀ k i, k ≠ 195 → w2.1 k i = (cm_u1 (cm_u1 (cm_u1 (cm_u1 (cm_u1 (cm_u1 (cm_u1 (cm_u1 (cm_u1 w 184 0 (Int32.ofInt 0)) 184 3 ((cm_u1 w 184 0 (Int32.ofInt 0)).1 184 2)) 184 2 (Int32.ofInt 0)) 184 4 (Int32.ofInt 0)) 184 5 ((Int16.ofInt 940).toInt32)) 195 0 (Int32.ofInt 0)) 195 1 (Int32.ofInt 0)) 195 2 (Int32.ofInt 0)) 195 3 (Int32.ofInt 0)).1 k i) ∧ w2.2 = (cm_u1 (cm_u1 (cm_u1 (cm_u1 (cm_u1 (cm_u1 (cm_u1 (cm_u1 (cm_u1 w 184 0 (Int32.ofInt 0)) 184 3 ((cm_u1 w 184 0 (Int32.ofInt 0)).1 184 2)) 184 2 (Int32.ofInt 0)) 184 4 (Int32.ofInt 0)) 184 5 ((Int16.ofInt 940).toInt32)) 195 0 (Int32.ofInt 0)) 195 1 (Int32.ofInt 0)) 195 2 (Int32.ofInt 0)) 195 3 (Int32.ofInt 0)).2 := hI
        obtain ⟨hz1, hz2, hse, hfr, hf2⟩ := hI
        obtain ⟨S0, hS0e⟩ : ∃ S0 : Nat, S0 = ((at_M F).foldl (at_sr (at_P (fun j => w.1 186 (25 + j)) F (w.1 186 4) (w.1 185 0 &&& ((Int16.ofInt 255).toInt32)) (w.1 185 1 &&& ((Int16.ofInt 255).toInt32)))) (0, (fun _ => Int32.ofInt 0), Int32.ofInt 15)).1 := ⟨_, rfl⟩
        rw [← hS0e] at hz1
        have hfr2 : ∀ k i, ¬ (k = 184 ∧ (i = 0 ∨ (2 ≤ i ∧ i ≤ 5))) → k ≠ 195 → w2.1 k i = w.1 k i := fun k i h1 h2 => (hfr k i h2).trans (hfw k i h1 h2)
        have hl3 : (w2.1 184 2).toInt = 0 := by rw [hfr 184 2 (by omega), hl2]; decide
        have hfx2 : w2.2 = w.2 := hf2.trans rfl
        refine wk_iload_n xd_42bfc27c rfl ?_
        refine wk_if xd_9ffa5a8b (t := 187) rfl (fun h179_0 => ?_) (fun h179_0 => ?_)
        · have h179_0 := aw_le_t (a := ((S0 : Int) : Int)) (b := (0 : Int)) hz1 hb_z h179_0
          refine wk_iload_n xd_d7aa123d rfl ?_
          exact wk_ireturn xd_bd0863cb xr_c9601f76 rfl ⟨_, _, rfl, .inr ⟨by omega, by omega, by rw [hz1, hS0e], fun k i h1 h2 h3 => hfr2 k i h1 h2, hfx2, hl3, .inl ⟨by omega, hfr2 184 28 (by omega) (by omega), hfr2 184 29 (by omega) (by omega), hfr2 184 30 (by omega) (by omega)⟩⟩⟩
        · have h179_0 := aw_le_f (a := ((S0 : Int) : Int)) (b := (0 : Int)) hz1 hb_z h179_0
          refine wk_aload_n xd_2be6a3a7 rfl ?_
          refine wk_iload_n xd_9056c97e rfl ?_
          obtain ⟨w3, hCt, t1, t2, t3, t4, t5⟩ := rtl_ok (w := w2) (su := z2) (F := F) (by rw [hfr2 186 1 (by omega) (by omega)]; exact hF) hF4 (fun i hi => by rw [hse i (by omega)]; exact hbd i hi)
          refine wk_call (kd := 0) (i := 350) xd_4dcdd1eb rfl (wk_cal (as := [.inr (.inr (some 184)), .inl z2]) (t := []) xl_fb4ba850 rfl xn_b6e5a531 xc_4e24ab95 rfl rfl xv_00d47f4a rfl) (cm_C_mono (by omega) hCt) ?_
          refine wk_iload_n xd_d7aa123d rfl ?_
          exact wk_ireturn xd_bd0863cb xr_c9601f76 rfl ⟨_, _, rfl, .inr ⟨by omega, by omega, by rw [hz1, hS0e], fun k i h1 h2 h3 => (t1 k i h3).trans (hfr2 k i h1 h2), t5.trans hfx2, by rw [t1 184 2 (by omega)]; exact hl3, .inr ⟨by omega, t3.trans hz2, t4.trans (at_mue F 0 _ _ (fun i _ hi => hse i (by omega))), t2⟩⟩⟩
      · have h28_1 := aw_le_f (a := ((w.1 185 0 &&& ((Int16.ofInt 255).toInt32)).toInt : Int)) (b := (199 : Int)) rfl (show (((Int16.ofInt 199).toInt32)).toInt = 199 from by decide) h28_1
        refine wk_iconst xd_8bec8e63 ?_
        exact wk_ireturn xd_1f4d984f xr_c9601f76 rfl ⟨_, _, rfl, .inl ⟨by omega, rfl, fun k i hk => by rw [hs_u1_ne (by omega), hs_u1_ne (by omega), hs_u1_ne (by omega), hs_u1_ne (by omega), hs_u1_ne (by omega)], rfl, by rw [hs_u1_ne (by omega), hs_u1_ne (by omega), hs_u1_self]; decide⟩⟩
  obtain ⟨o, hC, x, w', rfl, a⟩ := h
  exact ⟨x, w', hC, a⟩

/-! ## by hand: book of the class, lived (wip/p2/gen9o.py) -/
set_option maxRecDepth 100000 in
theorem xd_492b8204 : decode (ia_code 165) 0 = .ok (.aload_n 0, 1) := fdd_d (by decide +kernel)
set_option maxRecDepth 100000 in
theorem xd_b53b920d : decode (ia_code 165) 1 = .ok (.iload_n 1, 1) := fdd_d (by decide +kernel)
set_option maxRecDepth 100000 in
theorem xd_847ed1e0 : decode (ia_code 165) 2 = .ok (.iload_n 2, 1) := fdd_d (by decide +kernel)
set_option maxRecDepth 100000 in
theorem xl_d975d9e9 : ia_pl (ia_cls 165) 118 = some (1, 216, 0, 0, 1256) := by decide +kernel
set_option maxRecDepth 100000 in
theorem xd_47477980 : decode (ia_code 165) 3 = .ok (.invokevirtual 118, 3) := fdd_d (by decide +kernel)
set_option maxRecDepth 100000 in
theorem xd_50c8cf4d : decode (ia_code 165) 6 = .ok (.istore_n 3, 1) := fdd_d (by decide +kernel)
set_option maxRecDepth 100000 in
theorem xm_5219da0d : ia_maxL 165 = 4 := by decide +kernel
set_option maxRecDepth 100000 in
theorem xd_2231b317 : decode (ia_code 165) 7 = .ok (.iload_n 3, 1) := fdd_d (by decide +kernel)
set_option maxRecDepth 100000 in
theorem xd_b0cb4107 : decode (ia_code 165) 8 = .ok (.ifCond .ne 9, 3) := fdd_d (by decide +kernel)
set_option maxRecDepth 100000 in
theorem xd_e45603c3 : decode (ia_code 165) 17 = .ok (.iload_n 3, 1) := fdd_d (by decide +kernel)
set_option maxRecDepth 100000 in
theorem xd_bdfdaa7c : decode (ia_code 165) 18 = .ok (.ireturn, 1) := fdd_d (by decide +kernel)
set_option maxRecDepth 100000 in
theorem xr_8e04b165 : ia_ret 165 = some .int := by decide +kernel
set_option maxRecDepth 100000 in
theorem xd_143fd804 : decode (ia_code 165) 11 = .ok (.aload_n 0, 1) := fdd_d (by decide +kernel)
set_option maxRecDepth 100000 in
theorem xd_05b91be4 : decode (ia_code 165) 12 = .ok (.iload_n 1, 1) := fdd_d (by decide +kernel)
set_option maxRecDepth 100000 in
theorem xd_d96a8be0 : decode (ia_code 165) 13 = .ok (.iload_n 2, 1) := fdd_d (by decide +kernel)
set_option maxRecDepth 100000 in
theorem xl_50b85e2d : ia_pl (ia_cls 165) 121 = some (1, 212, 0, 0, 1257) := by decide +kernel
set_option maxRecDepth 100000 in
theorem xd_35f2e6b7 : decode (ia_code 165) 14 = .ok (.invokevirtual 121, 3) := fdd_d (by decide +kernel)
set_option maxRecDepth 100000 in
theorem xd_2b3590db : decode (ia_code 169) 0 = .ok (.iload_n 3, 1) := fdd_d (by decide +kernel)
set_option maxRecDepth 100000 in
theorem xd_c647d64d : decode (ia_code 169) 1 = .ok (.ifCond .ne 10, 3) := fdd_d (by decide +kernel)
set_option maxRecDepth 100000 in
theorem xd_973fe5c6 : decode (ia_code 169) 11 = .ok (.iload_n 2, 1) := fdd_d (by decide +kernel)
set_option maxRecDepth 100000 in
theorem xd_dcbaf54b : decode (ia_code 169) 12 = .ok (.iload_n 3, 1) := fdd_d (by decide +kernel)
set_option maxRecDepth 100000 in
theorem xd_4e06db37 : decode (ia_code 169) 13 = .ok (.iadd, 1) := fdd_d (by decide +kernel)
set_option maxRecDepth 100000 in
theorem xd_5d407efd : decode (ia_code 169) 14 = .ok (.ireturn, 1) := fdd_d (by decide +kernel)
set_option maxRecDepth 100000 in
theorem xr_14be089e : ia_ret 169 = some .int := by decide +kernel
set_option maxRecDepth 100000 in
theorem xd_36ca98f5 : decode (ia_code 169) 4 = .ok (.aload_n 0, 1) := fdd_d (by decide +kernel)
set_option maxRecDepth 100000 in
theorem xd_cada88fc : decode (ia_code 169) 5 = .ok (.iload_n 1, 1) := fdd_d (by decide +kernel)
set_option maxRecDepth 100000 in
theorem xl_88825cbf : ia_pl (ia_cls 169) 125 = some (1, 213, 0, 0, 1262) := by decide +kernel
set_option maxRecDepth 100000 in
theorem xd_61514f23 : decode (ia_code 169) 6 = .ok (.invokevirtual 125, 3) := fdd_d (by decide +kernel)
set_option maxRecDepth 100000 in
theorem xd_c329ec43 : decode (ia_code 169) 9 = .ok (.iconst 0, 1) := fdd_d (by decide +kernel)
set_option maxRecDepth 100000 in
theorem xd_4fb97a46 : decode (ia_code 169) 10 = .ok (.ireturn, 1) := fdd_d (by decide +kernel)
set_option maxRecDepth 100000 in
theorem xm_97e9370c : ia_maxL 169 = 4 := by decide +kernel
set_option maxRecDepth 100000 in
theorem xd_d18b9ff1 : decode (ia_code 168) 0 = .ok (.aload_n 0, 1) := fdd_d (by decide +kernel)
set_option maxRecDepth 100000 in
theorem xd_2d9b8ff8 : decode (ia_code 168) 1 = .ok (.iload_n 1, 1) := fdd_d (by decide +kernel)
set_option maxRecDepth 100000 in
theorem xl_3169d1a4 : ia_pl (ia_cls 168) 129 = some (1, 217, 0, 0, 1267) := by decide +kernel
set_option maxRecDepth 100000 in
theorem xd_bbbc5050 : decode (ia_code 168) 2 = .ok (.invokevirtual 129, 3) := fdd_d (by decide +kernel)
set_option maxRecDepth 100000 in
theorem xd_f8f9e95b : decode (ia_code 168) 5 = .ok (.istore_n 2, 1) := fdd_d (by decide +kernel)
set_option maxRecDepth 100000 in
theorem xm_34ed8b1f : ia_maxL 168 = 3 := by decide +kernel
set_option maxRecDepth 100000 in
theorem xd_1c826d86 : decode (ia_code 168) 6 = .ok (.iload_n 2, 1) := fdd_d (by decide +kernel)
set_option maxRecDepth 100000 in
theorem xd_467e6882 : decode (ia_code 168) 7 = .ok (.ifCond .ne 10, 3) := fdd_d (by decide +kernel)
set_option maxRecDepth 100000 in
theorem xd_ff6a5ebf : decode (ia_code 168) 17 = .ok (.bipush 30, 2) := fdd_d (by decide +kernel)
set_option maxRecDepth 100000 in
theorem xd_f90abda1 : decode (ia_code 168) 19 = .ok (.iload_n 2, 1) := fdd_d (by decide +kernel)
set_option maxRecDepth 100000 in
theorem xd_10fee43c : decode (ia_code 168) 20 = .ok (.iadd, 1) := fdd_d (by decide +kernel)
set_option maxRecDepth 100000 in
theorem xd_4c90c496 : decode (ia_code 168) 21 = .ok (.ireturn, 1) := fdd_d (by decide +kernel)
set_option maxRecDepth 100000 in
theorem xr_c928d11b : ia_ret 168 = some .int := by decide +kernel
set_option maxRecDepth 100000 in
theorem xd_4203945e : decode (ia_code 168) 10 = .ok (.aload_n 0, 1) := fdd_d (by decide +kernel)
set_option maxRecDepth 100000 in
theorem xd_be138457 : decode (ia_code 168) 11 = .ok (.iload_n 1, 1) := fdd_d (by decide +kernel)
set_option maxRecDepth 100000 in
theorem xl_2112d45e : ia_pl (ia_cls 168) 132 = some (1, 203, 0, 0, 1268) := by decide +kernel
set_option maxRecDepth 100000 in
theorem xd_121fd84b : decode (ia_code 168) 12 = .ok (.invokevirtual 132, 3) := fdd_d (by decide +kernel)
set_option maxRecDepth 100000 in
theorem xd_02b4fbc0 : decode (ia_code 168) 15 = .ok (.iconst 0, 1) := fdd_d (by decide +kernel)
set_option maxRecDepth 100000 in
theorem xd_1c0fef8e : decode (ia_code 168) 16 = .ok (.ireturn, 1) := fdd_d (by decide +kernel)
set_option maxRecDepth 100000 in
theorem xd_bb7c6ffc : decode (ia_code 166) 0 = .ok (.aload_n 0, 1) := fdd_d (by decide +kernel)
set_option maxRecDepth 100000 in
theorem xd_a9bac247 : decode (ia_code 166) 1 = .ok (.getfield 88, 3) := fdd_d (by decide +kernel)
set_option maxRecDepth 100000 in
theorem xf_75c21454 : wk_gf 166 88 33 1 0 = true := by decide +kernel
set_option maxRecDepth 100000 in
theorem xd_dc4334b2 : decode (ia_code 166) 4 = .ok (.iload_n 1, 1) := fdd_d (by decide +kernel)
set_option maxRecDepth 100000 in
theorem xd_3312bf6c : decode (ia_code 166) 5 = .ok (.iadd, 1) := fdd_d (by decide +kernel)
set_option maxRecDepth 100000 in
theorem xd_9b59d1f9 : decode (ia_code 166) 6 = .ok (.sipush 600, 3) := fdd_d (by decide +kernel)
set_option maxRecDepth 100000 in
theorem xd_5c121bf7 : decode (ia_code 166) 9 = .ok (.if_icmp .le 6, 3) := fdd_d (by decide +kernel)
set_option maxRecDepth 100000 in
theorem xd_a7f75454 : decode (ia_code 166) 15 = .ok (.aload_n 0, 1) := fdd_d (by decide +kernel)
set_option maxRecDepth 100000 in
theorem xd_b67197b4 : decode (ia_code 166) 16 = .ok (.iload_n 1, 1) := fdd_d (by decide +kernel)
set_option maxRecDepth 100000 in
theorem xl_e55093ac : ia_pl (ia_cls 166) 135 = some (1, 79, 0, 0, 1272) := by decide +kernel
set_option maxRecDepth 100000 in
theorem xd_93d594b8 : decode (ia_code 166) 17 = .ok (.invokevirtual 135, 3) := fdd_d (by decide +kernel)
set_option maxRecDepth 100000 in
theorem xd_b218a1fa : decode (ia_code 166) 20 = .ok (.pop, 1) := fdd_d (by decide +kernel)
set_option maxRecDepth 100000 in
theorem xd_4207a1f0 : decode (ia_code 166) 21 = .ok (.iconst 0, 1) := fdd_d (by decide +kernel)
set_option maxRecDepth 100000 in
theorem xd_705eb964 : decode (ia_code 166) 22 = .ok (.ireturn, 1) := fdd_d (by decide +kernel)
set_option maxRecDepth 100000 in
theorem xr_33ceddab : ia_ret 166 = some .int := by decide +kernel
set_option maxRecDepth 100000 in
theorem xd_3afb87bd : decode (ia_code 166) 12 = .ok (.bipush 41, 2) := fdd_d (by decide +kernel)
set_option maxRecDepth 100000 in
theorem xd_bf1b11e2 : decode (ia_code 166) 14 = .ok (.ireturn, 1) := fdd_d (by decide +kernel)
set_option maxRecDepth 100000 in
theorem xm_fcda05e8 : ia_maxL 166 = 2 := by decide +kernel
set_option maxRecDepth 100000 in
theorem xd_5c61c96b : decode (ia_code 167) 0 = .ok (.aload_n 0, 1) := fdd_d (by decide +kernel)
set_option maxRecDepth 100000 in
theorem xd_82100ce3 : decode (ia_code 167) 1 = .ok (.getfield 11, 3) := fdd_d (by decide +kernel)
set_option maxRecDepth 100000 in
theorem xf_e808c97d : wk_gf 167 11 116 3 (117 + 3) = true := by decide +kernel
set_option maxRecDepth 100000 in
theorem xd_7cfee8f5 : decode (ia_code 167) 4 = .ok (.iload_n 2, 1) := fdd_d (by decide +kernel)
set_option maxRecDepth 100000 in
theorem xd_ae26c2e8 : decode (ia_code 167) 5 = .ok (.iaload, 1) := fdd_d (by decide +kernel)
set_option maxRecDepth 100000 in
theorem xd_00a66000 : decode (ia_code 167) 6 = .ok (.tableswitch 104 6 9 #[30, 47, 70, 93], 30) := fdd_d (by decide +kernel)
set_option maxRecDepth 100000 in
theorem xd_303f9027 : decode (ia_code 167) 110 = .ok (.aload_n 1, 1) := fdd_d (by decide +kernel)
set_option maxRecDepth 100000 in
theorem xd_962c5343 : decode (ia_code 167) 111 = .ok (.aload_n 0, 1) := fdd_d (by decide +kernel)
set_option maxRecDepth 100000 in
theorem xd_52e15672 : decode (ia_code 167) 112 = .ok (.getfield 18, 3) := fdd_d (by decide +kernel)
set_option maxRecDepth 100000 in
theorem xf_4fba20d1 : wk_gf 167 18 116 5 (119 + 3) = true := by decide +kernel
set_option maxRecDepth 100000 in
theorem xd_b6b372dd : decode (ia_code 167) 115 = .ok (.iload_n 2, 1) := fdd_d (by decide +kernel)
set_option maxRecDepth 100000 in
theorem xd_2415ee05 : decode (ia_code 167) 116 = .ok (.iaload, 1) := fdd_d (by decide +kernel)
set_option maxRecDepth 100000 in
theorem xl_fc5dc36c : ia_pl (ia_cls 167) 115 = some (1, 166, 1, 0, 1269) := by decide +kernel
set_option maxRecDepth 100000 in
theorem xn_8067f76c : ia_na 166 = 2 := by decide +kernel
set_option maxRecDepth 100000 in
theorem xc_b408cba1 : ia_mc 166 = 0 ∧ ia_ms 166 = 0 := ⟨by decide +kernel, by decide +kernel⟩
set_option maxRecDepth 100000 in
theorem xd_bc7ba812 : decode (ia_code 167) 117 = .ok (.invokestatic 115, 3) := fdd_d (by decide +kernel)
set_option maxRecDepth 100000 in
theorem xd_df54231f : decode (ia_code 167) 120 = .ok (.ireturn, 1) := fdd_d (by decide +kernel)
set_option maxRecDepth 100000 in
theorem xr_ee58042e : ia_ret 167 = some .int := by decide +kernel
set_option maxRecDepth 100000 in
theorem xd_5bc59397 : decode (ia_code 167) 36 = .ok (.aload_n 1, 1) := fdd_d (by decide +kernel)
set_option maxRecDepth 100000 in
theorem xd_fdd650f3 : decode (ia_code 167) 37 = .ok (.aload_n 0, 1) := fdd_d (by decide +kernel)
set_option maxRecDepth 100000 in
theorem xd_000bdf77 : decode (ia_code 167) 38 = .ok (.getfield 15, 3) := fdd_d (by decide +kernel)
set_option maxRecDepth 100000 in
theorem xf_47508873 : wk_gf 167 15 116 4 (118 + 3) = true := by decide +kernel
set_option maxRecDepth 100000 in
theorem xd_01c795f3 : decode (ia_code 167) 41 = .ok (.iload_n 2, 1) := fdd_d (by decide +kernel)
set_option maxRecDepth 100000 in
theorem xd_acb1a67b : decode (ia_code 167) 42 = .ok (.iaload, 1) := fdd_d (by decide +kernel)
set_option maxRecDepth 100000 in
theorem xd_cc92c617 : decode (ia_code 167) 43 = .ok (.aload_n 0, 1) := fdd_d (by decide +kernel)
set_option maxRecDepth 100000 in
theorem xd_f7eeb9ac : decode (ia_code 167) 44 = .ok (.getfield 18, 3) := fdd_d (by decide +kernel)
set_option maxRecDepth 100000 in
theorem xd_ec0de789 : decode (ia_code 167) 47 = .ok (.iload_n 2, 1) := fdd_d (by decide +kernel)
set_option maxRecDepth 100000 in
theorem xd_fba40645 : decode (ia_code 167) 48 = .ok (.iaload, 1) := fdd_d (by decide +kernel)
set_option maxRecDepth 100000 in
theorem xl_267450a7 : ia_pl (ia_cls 167) 97 = some (1, 165, 1, 0, 1253) := by decide +kernel
set_option maxRecDepth 100000 in
theorem xn_b0c0bd2a : ia_na 165 = 3 := by decide +kernel
set_option maxRecDepth 100000 in
theorem xc_854d884c : ia_mc 165 = 0 ∧ ia_ms 165 = 0 := ⟨by decide +kernel, by decide +kernel⟩
set_option maxRecDepth 100000 in
theorem xd_221981d7 : decode (ia_code 167) 49 = .ok (.invokestatic 97, 3) := fdd_d (by decide +kernel)
set_option maxRecDepth 100000 in
theorem xd_b00c172a : decode (ia_code 167) 52 = .ok (.ireturn, 1) := fdd_d (by decide +kernel)
set_option maxRecDepth 100000 in
theorem xd_70d78a80 : decode (ia_code 167) 53 = .ok (.aload_n 1, 1) := fdd_d (by decide +kernel)
set_option maxRecDepth 100000 in
theorem xd_3b0e3b9e : decode (ia_code 167) 54 = .ok (.aload_n 0, 1) := fdd_d (by decide +kernel)
set_option maxRecDepth 100000 in
theorem xd_4de84b84 : decode (ia_code 167) 55 = .ok (.getfield 15, 3) := fdd_d (by decide +kernel)
set_option maxRecDepth 100000 in
theorem xd_1b285926 : decode (ia_code 167) 58 = .ok (.iload_n 2, 1) := fdd_d (by decide +kernel)
set_option maxRecDepth 100000 in
theorem xd_0119be9d : decode (ia_code 167) 59 = .ok (.iaload, 1) := fdd_d (by decide +kernel)
set_option maxRecDepth 100000 in
theorem xd_e554c061 : decode (ia_code 167) 60 = .ok (.bipush 10, 2) := fdd_d (by decide +kernel)
set_option maxRecDepth 100000 in
theorem xd_b3bac97c : decode (ia_code 167) 62 = .ok (.aload_n 1, 1) := fdd_d (by decide +kernel)
set_option maxRecDepth 100000 in
theorem xd_15a90a18 : decode (ia_code 167) 63 = .ok (.aload_n 0, 1) := fdd_d (by decide +kernel)
set_option maxRecDepth 100000 in
theorem xd_1a343672 : decode (ia_code 167) 64 = .ok (.getfield 15, 3) := fdd_d (by decide +kernel)
set_option maxRecDepth 100000 in
theorem xd_35362b86 : decode (ia_code 167) 67 = .ok (.iload_n 2, 1) := fdd_d (by decide +kernel)
set_option maxRecDepth 100000 in
theorem xd_1f600738 : decode (ia_code 167) 68 = .ok (.iaload, 1) := fdd_d (by decide +kernel)
set_option maxRecDepth 100000 in
theorem xl_83288c5e : ia_pl (ia_cls 167) 101 = some (1, 215, 0, 0, 1258) := by decide +kernel
set_option maxRecDepth 100000 in
theorem xd_c6a571e5 : decode (ia_code 167) 69 = .ok (.invokevirtual 101, 3) := fdd_d (by decide +kernel)
set_option maxRecDepth 100000 in
theorem xl_94ef2acb : ia_pl (ia_cls 167) 105 = some (1, 169, 1, 0, 1259) := by decide +kernel
set_option maxRecDepth 100000 in
theorem xn_eb54c588 : ia_na 169 = 4 := by decide +kernel
set_option maxRecDepth 100000 in
theorem xc_405887f8 : ia_mc 169 = 0 ∧ ia_ms 169 = 0 := ⟨by decide +kernel, by decide +kernel⟩
set_option maxRecDepth 100000 in
theorem xd_405bf81b : decode (ia_code 167) 72 = .ok (.invokestatic 105, 3) := fdd_d (by decide +kernel)
set_option maxRecDepth 100000 in
theorem xd_f7bb58f2 : decode (ia_code 167) 75 = .ok (.ireturn, 1) := fdd_d (by decide +kernel)
set_option maxRecDepth 100000 in
theorem xd_32c30dc8 : decode (ia_code 167) 76 = .ok (.aload_n 1, 1) := fdd_d (by decide +kernel)
set_option maxRecDepth 100000 in
theorem xd_94d0ceac : decode (ia_code 167) 77 = .ok (.aload_n 0, 1) := fdd_d (by decide +kernel)
set_option maxRecDepth 100000 in
theorem xd_2a9f49a9 : decode (ia_code 167) 78 = .ok (.getfield 15, 3) := fdd_d (by decide +kernel)
set_option maxRecDepth 100000 in
theorem xd_bacc3712 : decode (ia_code 167) 81 = .ok (.iload_n 2, 1) := fdd_d (by decide +kernel)
set_option maxRecDepth 100000 in
theorem xd_9bbaabb6 : decode (ia_code 167) 82 = .ok (.iaload, 1) := fdd_d (by decide +kernel)
set_option maxRecDepth 100000 in
theorem xd_7715e51c : decode (ia_code 167) 83 = .ok (.bipush 20, 2) := fdd_d (by decide +kernel)
set_option maxRecDepth 100000 in
theorem xd_a7333f3c : decode (ia_code 167) 85 = .ok (.aload_n 1, 1) := fdd_d (by decide +kernel)
set_option maxRecDepth 100000 in
theorem xd_ecb62fb1 : decode (ia_code 167) 86 = .ok (.aload_n 0, 1) := fdd_d (by decide +kernel)
set_option maxRecDepth 100000 in
theorem xd_452e702c : decode (ia_code 167) 87 = .ok (.getfield 15, 3) := fdd_d (by decide +kernel)
set_option maxRecDepth 100000 in
theorem xd_a09ab8e1 : decode (ia_code 167) 90 = .ok (.iload_n 2, 1) := fdd_d (by decide +kernel)
set_option maxRecDepth 100000 in
theorem xd_abc965e2 : decode (ia_code 167) 91 = .ok (.iaload, 1) := fdd_d (by decide +kernel)
set_option maxRecDepth 100000 in
theorem xl_7bbc5e35 : ia_pl (ia_cls 167) 109 = some (1, 218, 0, 0, 1263) := by decide +kernel
set_option maxRecDepth 100000 in
theorem xd_c943631e : decode (ia_code 167) 92 = .ok (.invokevirtual 109, 3) := fdd_d (by decide +kernel)
set_option maxRecDepth 100000 in
theorem xd_a416654d : decode (ia_code 167) 95 = .ok (.invokestatic 105, 3) := fdd_d (by decide +kernel)
set_option maxRecDepth 100000 in
theorem xd_94d8aa21 : decode (ia_code 167) 98 = .ok (.ireturn, 1) := fdd_d (by decide +kernel)
set_option maxRecDepth 100000 in
theorem xd_26f3b8ae : decode (ia_code 167) 99 = .ok (.aload_n 1, 1) := fdd_d (by decide +kernel)
set_option maxRecDepth 100000 in
theorem xd_8c7adcb0 : decode (ia_code 167) 100 = .ok (.aload_n 0, 1) := fdd_d (by decide +kernel)
set_option maxRecDepth 100000 in
theorem xd_801146b6 : decode (ia_code 167) 101 = .ok (.getfield 18, 3) := fdd_d (by decide +kernel)
set_option maxRecDepth 100000 in
theorem xd_ace5fd2e : decode (ia_code 167) 104 = .ok (.iload_n 2, 1) := fdd_d (by decide +kernel)
set_option maxRecDepth 100000 in
theorem xd_14662051 : decode (ia_code 167) 105 = .ok (.iaload, 1) := fdd_d (by decide +kernel)
set_option maxRecDepth 100000 in
theorem xl_700ee11c : ia_pl (ia_cls 167) 112 = some (1, 168, 1, 0, 1264) := by decide +kernel
set_option maxRecDepth 100000 in
theorem xn_3f57490d : ia_na 168 = 2 := by decide +kernel
set_option maxRecDepth 100000 in
theorem xc_e64b449c : ia_mc 168 = 0 ∧ ia_ms 168 = 0 := ⟨by decide +kernel, by decide +kernel⟩
set_option maxRecDepth 100000 in
theorem xd_3cdc7fdb : decode (ia_code 167) 106 = .ok (.invokestatic 112, 3) := fdd_d (by decide +kernel)
set_option maxRecDepth 100000 in
theorem xd_4b2c6077 : decode (ia_code 167) 109 = .ok (.ireturn, 1) := fdd_d (by decide +kernel)
set_option maxRecDepth 100000 in
theorem xm_b6bd1cce : ia_maxL 167 = 3 := by decide +kernel
set_option maxRecDepth 100000 in
theorem xd_fb1201ad : decode (ia_code 49) 4 = .ok (.iload_n 3, 1) := fdd_d (by decide +kernel)
set_option maxRecDepth 100000 in
theorem xd_7dc242c4 : decode (ia_code 49) 5 = .ok (.aload_n 0, 1) := fdd_d (by decide +kernel)
set_option maxRecDepth 100000 in
theorem xd_56ee1af0 : decode (ia_code 49) 6 = .ok (.getfield 42, 3) := fdd_d (by decide +kernel)
set_option maxRecDepth 100000 in
theorem xf_ce7c410c : wk_gf 49 42 116 2 0 = true := by decide +kernel
set_option maxRecDepth 100000 in
theorem xd_88f17498 : decode (ia_code 49) 9 = .ok (.if_icmp .ge 24, 3) := fdd_d (by decide +kernel)
set_option maxRecDepth 100000 in
theorem xd_316ab13c : decode (ia_code 49) 12 = .ok (.iload_n 2, 1) := fdd_d (by decide +kernel)
set_option maxRecDepth 100000 in
theorem xd_e5ce5d17 : decode (ia_code 49) 13 = .ok (.ifCond .ne 20, 3) := fdd_d (by decide +kernel)
set_option maxRecDepth 100000 in
theorem xd_11f590a2 : decode (ia_code 49) 16 = .ok (.aload_n 0, 1) := fdd_d (by decide +kernel)
set_option maxRecDepth 100000 in
theorem xd_b7e653c6 : decode (ia_code 49) 17 = .ok (.aload_n 1, 1) := fdd_d (by decide +kernel)
set_option maxRecDepth 100000 in
theorem xd_e1250843 : decode (ia_code 49) 18 = .ok (.iload_n 3, 1) := fdd_d (by decide +kernel)
set_option maxRecDepth 100000 in
theorem xl_2e9ae9cc : ia_pl (ia_cls 49) 84 = some (1, 167, 0, 0, 1249) := by decide +kernel
set_option maxRecDepth 100000 in
theorem xn_ca00ee4a : ia_na 167 = 3 := by decide +kernel
set_option maxRecDepth 100000 in
theorem xc_121b08c5 : ia_mc 167 = 0 ∧ ia_ms 167 = 0 := ⟨by decide +kernel, by decide +kernel⟩
set_option maxRecDepth 100000 in
theorem xv_6aacab46 : cm_rcv 167 [.inr (.inr (some 116))] = true := by decide +kernel
set_option maxRecDepth 100000 in
theorem xd_c433e18d : decode (ia_code 49) 19 = .ok (.invokevirtual 84, 3) := fdd_d (by decide +kernel)
set_option maxRecDepth 100000 in
theorem xd_be93446e : decode (ia_code 49) 22 = .ok (.istore_n 2, 1) := fdd_d (by decide +kernel)
set_option maxRecDepth 100000 in
theorem xm_3a40622c : ia_maxL 49 = 4 := by decide +kernel
set_option maxRecDepth 100000 in
theorem xd_f207f2c0 : decode (ia_code 49) 23 = .ok (.iload_n 2, 1) := fdd_d (by decide +kernel)
set_option maxRecDepth 100000 in
theorem xd_4a96fd57 : decode (ia_code 49) 24 = .ok (.ifCond .ne (-20), 3) := fdd_d (by decide +kernel)
set_option maxRecDepth 100000 in
theorem xd_c416bd02 : decode (ia_code 49) 27 = .ok (.iinc 3 1, 3) := fdd_d (by decide +kernel)
set_option maxRecDepth 100000 in
theorem xd_4fb0d052 : decode (ia_code 49) 30 = .ok (.goto (-26), 3) := fdd_d (by decide +kernel)
set_option maxRecDepth 100000 in
theorem xd_53e117ea : decode (ia_code 49) 33 = .ok (.aload_n 0, 1) := fdd_d (by decide +kernel)
set_option maxRecDepth 100000 in
theorem xd_059b0f49 : decode (ia_code 49) 34 = .ok (.iload_n 2, 1) := fdd_d (by decide +kernel)
set_option maxRecDepth 100000 in
theorem xd_30f67785 : decode (ia_code 49) 35 = .ok (.putfield 21, 3) := fdd_d (by decide +kernel)
set_option maxRecDepth 100000 in
theorem xf_3ea0fc6e : wk_pf 49 21 116 6 0 = true := by decide +kernel
set_option maxRecDepth 100000 in
theorem xg_2484a5b3 : sv_g sg 116 6 = sv_top := by decide +kernel
set_option maxRecDepth 100000 in
theorem xd_25bd6df1 : decode (ia_code 49) 38 = .ok (.aload_n 0, 1) := fdd_d (by decide +kernel)
set_option maxRecDepth 100000 in
theorem xd_a36d2e98 : decode (ia_code 49) 39 = .ok (.iload_n 3, 1) := fdd_d (by decide +kernel)
set_option maxRecDepth 100000 in
theorem xd_43837096 : decode (ia_code 49) 40 = .ok (.putfield 25, 3) := fdd_d (by decide +kernel)
set_option maxRecDepth 100000 in
theorem xf_0553dbd7 : wk_pf 49 25 116 7 0 = true := by decide +kernel
set_option maxRecDepth 100000 in
theorem xg_cb46ce8d : sv_g sg 116 7 = sv_top := by decide +kernel
set_option maxRecDepth 100000 in
theorem xd_62f9209d : decode (ia_code 49) 43 = .ok (.aload_n 0, 1) := fdd_d (by decide +kernel)
set_option maxRecDepth 100000 in
theorem xd_29209183 : decode (ia_code 49) 44 = .ok (.aload_n 1, 1) := fdd_d (by decide +kernel)
set_option maxRecDepth 100000 in
theorem xd_fd6fe18d : decode (ia_code 49) 45 = .ok (.getfield 88, 3) := fdd_d (by decide +kernel)
set_option maxRecDepth 100000 in
theorem xf_7cd565e0 : wk_gf 49 88 33 1 0 = true := by decide +kernel
set_option maxRecDepth 100000 in
theorem xd_97182790 : decode (ia_code 49) 48 = .ok (.putfield 28, 3) := fdd_d (by decide +kernel)
set_option maxRecDepth 100000 in
theorem xf_fd12c203 : wk_pf 49 28 116 8 0 = true := by decide +kernel
set_option maxRecDepth 100000 in
theorem xg_3a4d9500 : sv_g sg 116 8 = sv_top := by decide +kernel
set_option maxRecDepth 100000 in
theorem xd_0e4a9653 : decode (ia_code 49) 51 = .ok (.aload_n 0, 1) := fdd_d (by decide +kernel)
set_option maxRecDepth 100000 in
theorem xd_45cf86de : decode (ia_code 49) 52 = .ok (.aload_n 1, 1) := fdd_d (by decide +kernel)
set_option maxRecDepth 100000 in
theorem xs_75_4d1d0ea9 {w : cm_W} (hG : sv_w sg w) : ∃ x : Int32, cm_C 1 75 [.inr (.inr (some 33))] w (some (.inl x), w) ∧ (((-2147483648) ≤ x.toInt ∧ x.toInt ≤ 2147483647)) := by
  obtain ⟨r, w', hC, hG', hF, q, hq, hr, hp, hs⟩ := wk_use (d := 1) sm_75_4d1d0ea9_ok (by decide) (as := [.inr (.inr (some 33))]) (w := w) ⟨rfl, trivial⟩ (fun f hf => by
    cases hf) hG
  have ew : w' = w := Prod.ext (funext fun k => funext fun i => (hF k i (fun ⟨r, z, _⟩ => by cases z)).1) (funext fun k => funext fun i => (hF k i (fun ⟨r, z, _⟩ => by cases z)).2)
  subst ew
  simp only [sm_75_4d1d0ea9, List.mem_cons, List.not_mem_nil, or_false] at hq
  rcases hq with rfl
  · obtain ⟨x, rfl, hx⟩ := wk_int hr
    have hx := hb_in hx
    exact ⟨x, hC, ⟨by omega, by omega⟩⟩
set_option maxRecDepth 100000 in
theorem xl_8b80b613 : ia_pl (ia_cls 49) 93 = some (1, 75, 0, 0, 1273) := by decide +kernel
set_option maxRecDepth 100000 in
theorem xn_68533ac2 : ia_na 75 = 1 := by decide +kernel
set_option maxRecDepth 100000 in
theorem xc_e436a9c8 : ia_mc 75 = 0 ∧ ia_ms 75 = 0 := ⟨by decide +kernel, by decide +kernel⟩
set_option maxRecDepth 100000 in
theorem xv_7170ee2b : cm_rcv 75 [.inr (.inr (some 33))] = true := by decide +kernel
set_option maxRecDepth 100000 in
theorem xd_c667956d : decode (ia_code 49) 53 = .ok (.invokevirtual 93, 3) := fdd_d (by decide +kernel)
set_option maxRecDepth 100000 in
theorem xd_f199cfc2 : decode (ia_code 49) 56 = .ok (.putfield 31, 3) := fdd_d (by decide +kernel)
set_option maxRecDepth 100000 in
theorem xf_480d6ca0 : wk_pf 49 31 116 9 0 = true := by decide +kernel
set_option maxRecDepth 100000 in
theorem xg_d58ffe3e : sv_g sg 116 9 = sv_top := by decide +kernel
set_option maxRecDepth 100000 in
theorem xd_2e305578 : decode (ia_code 49) 59 = .ok (.iload_n 2, 1) := fdd_d (by decide +kernel)
set_option maxRecDepth 100000 in
theorem xd_73b3e767 : decode (ia_code 49) 60 = .ok (.ifCond .ne 7, 3) := fdd_d (by decide +kernel)
set_option maxRecDepth 100000 in
theorem xd_a63de4bc : decode (ia_code 49) 67 = .ok (.iload_n 3, 1) := fdd_d (by decide +kernel)
set_option maxRecDepth 100000 in
theorem xd_14b45f95 : decode (ia_code 49) 68 = .ok (.ireturn, 1) := fdd_d (by decide +kernel)
set_option maxRecDepth 100000 in
theorem xr_9953d08e : ia_ret 49 = some .int := by decide +kernel
set_option maxRecDepth 100000 in
theorem xd_28424790 : decode (ia_code 49) 63 = .ok (.iconst (-1), 1) := fdd_d (by decide +kernel)
set_option maxRecDepth 100000 in
theorem xd_3ea57f57 : decode (ia_code 49) 64 = .ok (.goto 4, 3) := fdd_d (by decide +kernel)
set_option maxRecDepth 100000 in
theorem xd_7664bc66 : decode (ia_code 49) 0 = .ok (.iconst 0, 1) := fdd_d (by decide +kernel)
set_option maxRecDepth 100000 in
theorem xd_2fc30182 : decode (ia_code 49) 1 = .ok (.istore_n 2, 1) := fdd_d (by decide +kernel)
set_option maxRecDepth 100000 in
theorem xd_583475e6 : decode (ia_code 49) 2 = .ok (.iconst 0, 1) := fdd_d (by decide +kernel)
set_option maxRecDepth 100000 in
theorem xd_cb98e43d : decode (ia_code 49) 3 = .ok (.istore_n 3, 1) := fdd_d (by decide +kernel)
set_option maxRecDepth 100000 in
theorem xs_216_dd233472 {a1 : Int32} {a2 : Int32} {w : cm_W} (h1 : 0 ≤ a1.toInt ∧ a1.toInt ≤ 5) (h2 : 0 ≤ a2.toInt ∧ a2.toInt ≤ 3) (hG : sv_w sg w) : ∃ x : Int32, cm_C 2 216 [.inr (.inr (some 40)), .inl a1, .inl a2] w (some (.inl x), w) ∧ ((0 ≤ x.toInt ∧ x.toInt ≤ 3)) := by
  obtain ⟨r, w', hC, hG', hF, q, hq, hr, hp, hs⟩ := wk_use (d := 2) sm_216_dd233472_ok (by decide) (as := [.inr (.inr (some 40)), .inl a1, .inl a2]) (w := w) ⟨rfl, hb_mk (lo := 2147483648) (hi := 2147483653) (by have := h1.1; omega) (by have := h1.2; omega), hb_mk (lo := 2147483648) (hi := 2147483651) (by have := h2.1; omega) (by have := h2.2; omega), trivial⟩ (fun f hf => by
    cases hf) hG
  have ew : w' = w := Prod.ext (funext fun k => funext fun i => (hF k i (fun ⟨r, z, _⟩ => by cases z)).1) (funext fun k => funext fun i => (hF k i (fun ⟨r, z, _⟩ => by cases z)).2)
  subst ew
  simp only [sm_216_dd233472, List.mem_cons, List.not_mem_nil, or_false] at hq
  rcases hq with rfl
  · obtain ⟨x, rfl, hx⟩ := wk_int hr
    have hx := hb_in hx
    exact ⟨x, hC, ⟨by omega, by omega⟩⟩
set_option maxRecDepth 100000 in
theorem xv_1061bcdd : cm_rcv 216 [.inr (.inr (some 40))] = true := by decide +kernel
set_option maxRecDepth 100000 in
theorem xs_212_dd233472 {a1 : Int32} {a2 : Int32} {w : cm_W} (h1 : 0 ≤ a1.toInt ∧ a1.toInt ≤ 5) (h2 : 0 ≤ a2.toInt ∧ a2.toInt ≤ 3) (hG : sv_w sg w) : ∃ w' : cm_W, cm_C 1 212 [.inr (.inr (some 40)), .inl a1, .inl a2] w (none, w') ∧ sv_w sg w' ∧ (∀ k i, ¬ ((k = 41 ∧ 0 ≤ i ∧ i ≤ 5) ∨ (k = 43 ∧ 0 ≤ i ∧ i ≤ 5) ∨ (k = 44 ∧ 0 ≤ i ∧ i ≤ 3)) → w'.1 k i = w.1 k i ∧ w'.2 k i = w.2 k i) ∧ ((True)) := by
  obtain ⟨r, w', hC, hG', hF, q, hq, hr, hp, hs⟩ := wk_use (d := 1) sm_212_dd233472_ok (by decide) (as := [.inr (.inr (some 40)), .inl a1, .inl a2]) (w := w) ⟨rfl, hb_mk (lo := 2147483648) (hi := 2147483653) (by have := h1.1; omega) (by have := h1.2; omega), hb_mk (lo := 2147483648) (hi := 2147483651) (by have := h2.1; omega) (by have := h2.2; omega), trivial⟩ (fun f hf => by
    cases hf) hG
  have hfr : ∀ k i, ¬ ((k = 41 ∧ 0 ≤ i ∧ i ≤ 5) ∨ (k = 43 ∧ 0 ≤ i ∧ i ≤ 5) ∨ (k = 44 ∧ 0 ≤ i ∧ i ≤ 3)) → w'.1 k i = w.1 k i ∧ w'.2 k i = w.2 k i := fun k i hki => hF k i (fun ⟨r, z, z1, z2, z3⟩ => by
    simp only [sm_212_dd233472, List.mem_cons, List.not_mem_nil, or_false] at z
    rcases z with rfl | rfl | rfl
    all_goals (simp only at z1 z2 z3; omega))
  simp only [sm_212_dd233472, List.mem_cons, List.not_mem_nil, or_false] at hq
  rcases hq with rfl
  · obtain rfl : r = none := by
      match r, hr with
      | none, _ => rfl
    exact ⟨w', hC, hG', hfr, (trivial)⟩
set_option maxRecDepth 100000 in
theorem xv_61eba6f7 : cm_rcv 212 [.inr (.inr (some 40))] = true := by decide +kernel
set_option maxRecDepth 100000 in
theorem xs_213_afa9fe39 {a1 : Int32} {w : cm_W} (h1 : 0 ≤ a1.toInt ∧ a1.toInt ≤ 5) (hG : sv_w sg w) : ∃ w' : cm_W, cm_C 1 213 [.inr (.inr (some 40)), .inl a1] w (none, w') ∧ sv_w sg w' ∧ (∀ k i, ¬ ((k = 40 ∧ i = 2)) → w'.1 k i = w.1 k i ∧ w'.2 k i = w.2 k i) ∧ ((True)) := by
  obtain ⟨r, w', hC, hG', hF, q, hq, hr, hp, hs⟩ := wk_use (d := 1) sm_213_afa9fe39_ok (by decide) (as := [.inr (.inr (some 40)), .inl a1]) (w := w) ⟨rfl, hb_mk (lo := 2147483648) (hi := 2147483653) (by have := h1.1; omega) (by have := h1.2; omega), trivial⟩ (fun f hf => by
    cases hf) hG
  have hfr : ∀ k i, ¬ ((k = 40 ∧ i = 2)) → w'.1 k i = w.1 k i ∧ w'.2 k i = w.2 k i := fun k i hki => hF k i (fun ⟨r, z, z1, z2, z3⟩ => by
    simp only [sm_213_afa9fe39, List.mem_cons, List.not_mem_nil, or_false] at z
    rcases z with rfl
    all_goals (simp only at z1 z2 z3; omega))
  simp only [sm_213_afa9fe39, List.mem_cons, List.not_mem_nil, or_false] at hq
  rcases hq with rfl
  · obtain rfl : r = none := by
      match r, hr with
      | none, _ => rfl
    exact ⟨w', hC, hG', hfr, (trivial)⟩
set_option maxRecDepth 100000 in
theorem xv_9031a35d : cm_rcv 213 [.inr (.inr (some 40))] = true := by decide +kernel
set_option maxRecDepth 100000 in
theorem xs_217_afa9fe39 {a1 : Int32} {w : cm_W} (h1 : 0 ≤ a1.toInt ∧ a1.toInt ≤ 5) (hG : sv_w sg w) : ∃ x : Int32, cm_C 4 217 [.inr (.inr (some 40)), .inl a1] w (some (.inl x), w) ∧ ((0 ≤ x.toInt ∧ x.toInt ≤ 3)) := by
  obtain ⟨r, w', hC, hG', hF, q, hq, hr, hp, hs⟩ := wk_use (d := 4) sm_217_afa9fe39_ok (by decide) (as := [.inr (.inr (some 40)), .inl a1]) (w := w) ⟨rfl, hb_mk (lo := 2147483648) (hi := 2147483653) (by have := h1.1; omega) (by have := h1.2; omega), trivial⟩ (fun f hf => by
    cases hf) hG
  have ew : w' = w := Prod.ext (funext fun k => funext fun i => (hF k i (fun ⟨r, z, _⟩ => by cases z)).1) (funext fun k => funext fun i => (hF k i (fun ⟨r, z, _⟩ => by cases z)).2)
  subst ew
  simp only [sm_217_afa9fe39, List.mem_cons, List.not_mem_nil, or_false] at hq
  rcases hq with rfl
  · obtain ⟨x, rfl, hx⟩ := wk_int hr
    have hx := hb_in hx
    exact ⟨x, hC, ⟨by omega, by omega⟩⟩
set_option maxRecDepth 100000 in
theorem xv_e1bbb977 : cm_rcv 217 [.inr (.inr (some 40))] = true := by decide +kernel
set_option maxRecDepth 100000 in
theorem xs_203_afa9fe39 {a1 : Int32} {w : cm_W} (h1 : 0 ≤ a1.toInt ∧ a1.toInt ≤ 5) (hG : sv_w sg w) : ∃ w' : cm_W, cm_C 1 203 [.inr (.inr (some 40)), .inl a1] w (none, w') ∧ sv_w sg w' ∧ (∀ k i, ¬ ((k = 45 ∧ 0 ≤ i ∧ i ≤ 5)) → w'.1 k i = w.1 k i ∧ w'.2 k i = w.2 k i) ∧ ((True)) := by
  obtain ⟨r, w', hC, hG', hF, q, hq, hr, hp, hs⟩ := wk_use (d := 1) sm_203_afa9fe39_ok (by decide) (as := [.inr (.inr (some 40)), .inl a1]) (w := w) ⟨rfl, hb_mk (lo := 2147483648) (hi := 2147483653) (by have := h1.1; omega) (by have := h1.2; omega), trivial⟩ (fun f hf => by
    cases hf) hG
  have hfr : ∀ k i, ¬ ((k = 45 ∧ 0 ≤ i ∧ i ≤ 5)) → w'.1 k i = w.1 k i ∧ w'.2 k i = w.2 k i := fun k i hki => hF k i (fun ⟨r, z, z1, z2, z3⟩ => by
    simp only [sm_203_afa9fe39, List.mem_cons, List.not_mem_nil, or_false] at z
    rcases z with rfl
    all_goals (simp only at z1 z2 z3; omega))
  simp only [sm_203_afa9fe39, List.mem_cons, List.not_mem_nil, or_false] at hq
  rcases hq with rfl
  · obtain rfl : r = none := by
      match r, hr with
      | none, _ => rfl
    exact ⟨w', hC, hG', hfr, (trivial)⟩
set_option maxRecDepth 100000 in
theorem xv_a6c333ae : cm_rcv 203 [.inr (.inr (some 40))] = true := by decide +kernel
set_option maxRecDepth 100000 in
theorem xf_7f2fc0fc : wk_gf 166 88 40 1 0 = true := by decide +kernel
set_option maxRecDepth 100000 in
theorem xs_79_04b53a84 {a1 : Int32} {w : cm_W} (hG : sv_w sg w) : ∃ x : Int32, ∃ w' : cm_W, cm_C 4 79 [.inr (.inr (some 40)), .inl a1] w (some (.inl x), w') ∧ sv_w sg w' ∧ (∀ k i, ¬ ((k = 40 ∧ i = 1) ∨ (k = 40 ∧ i = 3) ∨ (k = 41 ∧ 0 ≤ i ∧ i ≤ 5) ∨ (k = 42 ∧ 0 ≤ i ∧ i ≤ 5) ∨ (k = 46 ∧ 0 ≤ i ∧ i ≤ 9)) → w'.1 k i = w.1 k i ∧ w'.2 k i = w.2 k i) ∧ ((0 ≤ x.toInt ∧ x.toInt ≤ 2147483647)) := by
  obtain ⟨r, w', hC, hG', hF, q, hq, hr, hp, hs⟩ := wk_use (d := 4) sm_79_04b53a84_ok (by decide) (as := [.inr (.inr (some 40)), .inl a1]) (w := w) ⟨rfl, sv_in_top _, trivial⟩ (fun f hf => by
    cases hf) hG
  have hfr : ∀ k i, ¬ ((k = 40 ∧ i = 1) ∨ (k = 40 ∧ i = 3) ∨ (k = 41 ∧ 0 ≤ i ∧ i ≤ 5) ∨ (k = 42 ∧ 0 ≤ i ∧ i ≤ 5) ∨ (k = 46 ∧ 0 ≤ i ∧ i ≤ 9)) → w'.1 k i = w.1 k i ∧ w'.2 k i = w.2 k i := fun k i hki => hF k i (fun ⟨r, z, z1, z2, z3⟩ => by
    simp only [sm_79_04b53a84, List.mem_cons, List.not_mem_nil, or_false] at z
    rcases z with rfl | rfl | rfl | rfl | rfl
    all_goals (simp only at z1 z2 z3; omega))
  simp only [sm_79_04b53a84, List.mem_cons, List.not_mem_nil, or_false] at hq
  rcases hq with rfl
  · obtain ⟨x, rfl, hx⟩ := wk_int hr
    have hx := hb_in hx
    exact ⟨x, w', hC, hG', hfr, ⟨by omega, by omega⟩⟩
set_option maxRecDepth 100000 in
theorem xv_0e944fdb : cm_rcv 79 [.inr (.inr (some 40))] = true := by decide +kernel
set_option maxRecDepth 100000 in
theorem xs_215_afa9fe39 {a1 : Int32} {w : cm_W} (h1 : 0 ≤ a1.toInt ∧ a1.toInt ≤ 5) (hG : sv_w sg w) : ∃ x : Int32, cm_C 2 215 [.inr (.inr (some 40)), .inl a1] w (some (.inl x), w) ∧ ((0 ≤ x.toInt ∧ x.toInt ≤ 1)) := by
  obtain ⟨r, w', hC, hG', hF, q, hq, hr, hp, hs⟩ := wk_use (d := 2) sm_215_afa9fe39_ok (by decide) (as := [.inr (.inr (some 40)), .inl a1]) (w := w) ⟨rfl, hb_mk (lo := 2147483648) (hi := 2147483653) (by have := h1.1; omega) (by have := h1.2; omega), trivial⟩ (fun f hf => by
    cases hf) hG
  have ew : w' = w := Prod.ext (funext fun k => funext fun i => (hF k i (fun ⟨r, z, _⟩ => by cases z)).1) (funext fun k => funext fun i => (hF k i (fun ⟨r, z, _⟩ => by cases z)).2)
  subst ew
  simp only [sm_215_afa9fe39, List.mem_cons, List.not_mem_nil, or_false] at hq
  rcases hq with rfl
  · obtain ⟨x, rfl, hx⟩ := wk_int hr
    have hx := hb_in hx
    exact ⟨x, hC, ⟨by omega, by omega⟩⟩
set_option maxRecDepth 100000 in
theorem xv_d97eb462 : cm_rcv 215 [.inr (.inr (some 40))] = true := by decide +kernel
set_option maxRecDepth 100000 in
theorem xs_218_afa9fe39 {a1 : Int32} {w : cm_W} (h1 : 0 ≤ a1.toInt ∧ a1.toInt ≤ 5) (hG : sv_w sg w) : ∃ x : Int32, cm_C 2 218 [.inr (.inr (some 40)), .inl a1] w (some (.inl x), w) ∧ ((0 ≤ x.toInt ∧ x.toInt ≤ 1)) := by
  obtain ⟨r, w', hC, hG', hF, q, hq, hr, hp, hs⟩ := wk_use (d := 2) sm_218_afa9fe39_ok (by decide) (as := [.inr (.inr (some 40)), .inl a1]) (w := w) ⟨rfl, hb_mk (lo := 2147483648) (hi := 2147483653) (by have := h1.1; omega) (by have := h1.2; omega), trivial⟩ (fun f hf => by
    cases hf) hG
  have ew : w' = w := Prod.ext (funext fun k => funext fun i => (hF k i (fun ⟨r, z, _⟩ => by cases z)).1) (funext fun k => funext fun i => (hF k i (fun ⟨r, z, _⟩ => by cases z)).2)
  subst ew
  simp only [sm_218_afa9fe39, List.mem_cons, List.not_mem_nil, or_false] at hq
  rcases hq with rfl
  · obtain ⟨x, rfl, hx⟩ := wk_int hr
    have hx := hb_in hx
    exact ⟨x, hC, ⟨by omega, by omega⟩⟩
set_option maxRecDepth 100000 in
theorem xv_ba3a9fb6 : cm_rcv 218 [.inr (.inr (some 40))] = true := by decide +kernel
set_option maxRecDepth 100000 in
theorem xf_7638b148 : wk_gf 49 88 40 1 0 = true := by decide +kernel
set_option maxRecDepth 100000 in
theorem xs_75_a0678127 {w : cm_W} (hG : sv_w sg w) : ∃ x : Int32, cm_C 1 75 [.inr (.inr (some 40))] w (some (.inl x), w) ∧ (((-2147483648) ≤ x.toInt ∧ x.toInt ≤ 2147483647)) := by
  obtain ⟨r, w', hC, hG', hF, q, hq, hr, hp, hs⟩ := wk_use (d := 1) sm_75_a0678127_ok (by decide) (as := [.inr (.inr (some 40))]) (w := w) ⟨rfl, trivial⟩ (fun f hf => by
    cases hf) hG
  have ew : w' = w := Prod.ext (funext fun k => funext fun i => (hF k i (fun ⟨r, z, _⟩ => by cases z)).1) (funext fun k => funext fun i => (hF k i (fun ⟨r, z, _⟩ => by cases z)).2)
  subst ew
  simp only [sm_75_a0678127, List.mem_cons, List.not_mem_nil, or_false] at hq
  rcases hq with rfl
  · obtain ⟨x, rfl, hx⟩ := wk_int hr
    have hx := hb_in hx
    exact ⟨x, hC, ⟨by omega, by omega⟩⟩
set_option maxRecDepth 100000 in
theorem xv_9c0a61a5 : cm_rcv 75 [.inr (.inr (some 40))] = true := by decide +kernel
set_option maxRecDepth 100000 in
theorem xd_188fc725 : decode (ia_code 4) 0 = .ok (.iload_n 1, 1) := fdd_d (by decide +kernel)
set_option maxRecDepth 100000 in
theorem xd_46657222 : decode (ia_code 4) 1 = .ok (.ifCond .eq 12, 3) := fdd_d (by decide +kernel)
set_option maxRecDepth 100000 in
theorem xd_4d947265 : decode (ia_code 4) 13 = .ok (.aload_n 0, 1) := fdd_d (by decide +kernel)
set_option maxRecDepth 100000 in
theorem xd_04c6660a : decode (ia_code 4) 14 = .ok (.sipush 400, 3) := fdd_d (by decide +kernel)
set_option maxRecDepth 100000 in
theorem xl_30e90cce : ia_pl (ia_cls 4) 117 = some (1, 33, 0, 0, 707) := by decide +kernel
set_option maxRecDepth 100000 in
theorem xd_8b83e9fa : decode (ia_code 4) 17 = .ok (.invokevirtual 117, 3) := fdd_d (by decide +kernel)
set_option maxRecDepth 100000 in
theorem xd_636fe270 : decode (ia_code 4) 20 = .ok (.aload_n 0, 1) := fdd_d (by decide +kernel)
set_option maxRecDepth 100000 in
theorem xd_61b3a9eb : decode (ia_code 4) 21 = .ok (.getfield 79, 3) := fdd_d (by decide +kernel)
set_option maxRecDepth 100000 in
theorem xf_af66a6ef : wk_gf 4 79 0 13 (116 + 3) = true := by decide +kernel
set_option maxRecDepth 100000 in
theorem xl_720528f1 : ia_pl (ia_cls 4) 356 = some (1, 50, 0, 0, 1226) := by decide +kernel
set_option maxRecDepth 100000 in
theorem xn_ed7b14b9 : ia_na 50 = 1 := by decide +kernel
set_option maxRecDepth 100000 in
theorem xc_c701a39a : ia_mc 50 = 0 ∧ ia_ms 50 = 0 := ⟨by decide +kernel, by decide +kernel⟩
set_option maxRecDepth 100000 in
theorem xv_d26c51ae : cm_rcv 50 [.inr (.inr (some 116))] = true := by decide +kernel
set_option maxRecDepth 100000 in
theorem xd_60daa2b9 : decode (ia_code 4) 24 = .ok (.invokevirtual 356, 3) := fdd_d (by decide +kernel)
set_option maxRecDepth 100000 in
theorem xd_bbcf729f : decode (ia_code 4) 27 = .ok (.istore_n 2, 1) := fdd_d (by decide +kernel)
set_option maxRecDepth 100000 in
theorem xm_b8649787 : ia_maxL 4 = 3 := by decide +kernel
set_option maxRecDepth 100000 in
theorem xd_63d6a156 : decode (ia_code 4) 28 = .ok (.aload_n 0, 1) := fdd_d (by decide +kernel)
set_option maxRecDepth 100000 in
theorem xd_f8a54b82 : decode (ia_code 4) 29 = .ok (.aload_n 0, 1) := fdd_d (by decide +kernel)
set_option maxRecDepth 100000 in
theorem xd_c81c55df : decode (ia_code 4) 30 = .ok (.getfield 18, 3) := fdd_d (by decide +kernel)
set_option maxRecDepth 100000 in
theorem xf_b0c83767 : wk_gf 4 18 0 2 (2 + 3) = true := by decide +kernel
set_option maxRecDepth 100000 in
theorem xd_61d3ee66 : decode (ia_code 4) 33 = .ok (.getfield 124, 3) := fdd_d (by decide +kernel)
set_option maxRecDepth 100000 in
theorem xf_42ac9d61 : wk_gf 4 124 2 11 0 = true := by decide +kernel
set_option maxRecDepth 100000 in
theorem xd_b446fd5b : decode (ia_code 4) 36 = .ok (.putfield 127, 3) := fdd_d (by decide +kernel)
set_option maxRecDepth 100000 in
theorem xf_323159e2 : wk_pf 4 127 0 3 0 = true := by decide +kernel
set_option maxRecDepth 100000 in
theorem xd_5943aea8 : decode (ia_code 4) 39 = .ok (.iload_n 2, 1) := fdd_d (by decide +kernel)
set_option maxRecDepth 100000 in
theorem xd_7226489f : decode (ia_code 4) 40 = .ok (.ifCond .ne 14, 3) := fdd_d (by decide +kernel)
set_option maxRecDepth 100000 in
theorem xd_35488e49 : decode (ia_code 4) 54 = .ok (.iload_n 1, 1) := fdd_d (by decide +kernel)
set_option maxRecDepth 100000 in
theorem xd_91efd1ea : decode (ia_code 4) 55 = .ok (.iconst 1, 1) := fdd_d (by decide +kernel)
set_option maxRecDepth 100000 in
theorem xd_0ffdccf1 : decode (ia_code 4) 56 = .ok (.if_icmp .ne 26, 3) := fdd_d (by decide +kernel)
set_option maxRecDepth 100000 in
theorem xd_85cfc128 : decode (ia_code 4) 82 = .ok (.aload_n 0, 1) := fdd_d (by decide +kernel)
set_option maxRecDepth 100000 in
theorem xd_f16e2a1f : decode (ia_code 4) 83 = .ok (.getfield 50, 3) := fdd_d (by decide +kernel)
set_option maxRecDepth 100000 in
theorem xf_9db9faf8 : wk_gf 4 50 0 8 (40 + 3) = true := by decide +kernel
set_option maxRecDepth 100000 in
theorem xd_859360bb : decode (ia_code 4) 86 = .ok (.aload_n 0, 1) := fdd_d (by decide +kernel)
set_option maxRecDepth 100000 in
theorem xd_4ecf46e1 : decode (ia_code 4) 87 = .ok (.getfield 46, 3) := fdd_d (by decide +kernel)
set_option maxRecDepth 100000 in
theorem xf_62296e25 : wk_gf 4 46 0 7 (33 + 3) = true := by decide +kernel
set_option maxRecDepth 100000 in
theorem xs_72_c5eb5496 {w : cm_W} (hG : sv_w sg w) : ∃ w' : cm_W, cm_C 1 72 [.inr (.inr (some 40)), .inr (.inr (some 33))] w (none, w') ∧ sv_w sg w' ∧ (∀ k i, ¬ ((k = 40 ∧ 1 ≤ i ∧ i ≤ 3) ∨ (k = 41 ∧ 0 ≤ i ∧ i ≤ 15) ∨ (k = 42 ∧ 0 ≤ i ∧ i ≤ 15) ∨ (k = 43 ∧ 0 ≤ i ∧ i ≤ 15) ∨ (k = 44 ∧ 0 ≤ i ∧ i ≤ 15) ∨ (k = 45 ∧ 0 ≤ i ∧ i ≤ 15) ∨ (k = 46 ∧ 0 ≤ i ∧ i ≤ 15)) → w'.1 k i = w.1 k i ∧ w'.2 k i = w.2 k i) ∧ ((True)) := by
  obtain ⟨r, w', hC, hG', hF, q, hq, hr, hp, hs⟩ := wk_use (d := 1) sm_72_c5eb5496_ok (by decide) (as := [.inr (.inr (some 40)), .inr (.inr (some 33))]) (w := w) ⟨rfl, rfl, trivial⟩ (fun f hf => by
    cases hf) hG
  have hfr : ∀ k i, ¬ ((k = 40 ∧ 1 ≤ i ∧ i ≤ 3) ∨ (k = 41 ∧ 0 ≤ i ∧ i ≤ 15) ∨ (k = 42 ∧ 0 ≤ i ∧ i ≤ 15) ∨ (k = 43 ∧ 0 ≤ i ∧ i ≤ 15) ∨ (k = 44 ∧ 0 ≤ i ∧ i ≤ 15) ∨ (k = 45 ∧ 0 ≤ i ∧ i ≤ 15) ∨ (k = 46 ∧ 0 ≤ i ∧ i ≤ 15)) → w'.1 k i = w.1 k i ∧ w'.2 k i = w.2 k i := fun k i hki => hF k i (fun ⟨r, z, z1, z2, z3⟩ => by
    simp only [sm_72_c5eb5496, List.mem_cons, List.not_mem_nil, or_false] at z
    rcases z with rfl | rfl | rfl | rfl | rfl | rfl | rfl
    all_goals (simp only at z1 z2 z3; omega))
  simp only [sm_72_c5eb5496, List.mem_cons, List.not_mem_nil, or_false] at hq
  rcases hq with rfl
  · obtain rfl : r = none := by
      match r, hr with
      | none, _ => rfl
    exact ⟨w', hC, hG', hfr, (trivial)⟩
set_option maxRecDepth 100000 in
theorem xl_38c3371c : ia_pl (ia_cls 4) 333 = some (1, 72, 0, 0, 1129) := by decide +kernel
set_option maxRecDepth 100000 in
theorem xv_249f7330 : cm_rcv 72 [.inr (.inr (some 40))] = true := by decide +kernel
set_option maxRecDepth 100000 in
theorem xd_6ff7517b : decode (ia_code 4) 90 = .ok (.invokevirtual 333, 3) := fdd_d (by decide +kernel)
set_option maxRecDepth 100000 in
theorem xd_9f994edb : decode (ia_code 4) 93 = .ok (.aload_n 0, 1) := fdd_d (by decide +kernel)
set_option maxRecDepth 100000 in
theorem xd_98fbb35a : decode (ia_code 4) 94 = .ok (.getfield 79, 3) := fdd_d (by decide +kernel)
set_option maxRecDepth 100000 in
theorem xd_9fc5ef48 : decode (ia_code 4) 97 = .ok (.aload_n 0, 1) := fdd_d (by decide +kernel)
set_option maxRecDepth 100000 in
theorem xd_0f95a96c : decode (ia_code 4) 98 = .ok (.getfield 50, 3) := fdd_d (by decide +kernel)
set_option maxRecDepth 100000 in
theorem xl_421bc58e : ia_pl (ia_cls 4) 358 = some (1, 49, 0, 0, 1245) := by decide +kernel
set_option maxRecDepth 100000 in
theorem xn_b23ef4d7 : ia_na 49 = 2 := by decide +kernel
set_option maxRecDepth 100000 in
theorem xc_3455ba5a : ia_mc 49 = 0 ∧ ia_ms 49 = 0 := ⟨by decide +kernel, by decide +kernel⟩
set_option maxRecDepth 100000 in
theorem xv_acf911b2 : cm_rcv 49 [.inr (.inr (some 116))] = true := by decide +kernel
set_option maxRecDepth 100000 in
theorem xd_461a1f25 : decode (ia_code 4) 101 = .ok (.invokevirtual 358, 3) := fdd_d (by decide +kernel)
set_option maxRecDepth 100000 in
theorem xd_c0701ab7 : decode (ia_code 4) 104 = .ok (.ireturn, 1) := fdd_d (by decide +kernel)
set_option maxRecDepth 100000 in
theorem xr_df558ec9 : ia_ret 4 = some .int := by decide +kernel
set_option maxRecDepth 100000 in
theorem xd_c9bd7cf5 : decode (ia_code 4) 59 = .ok (.aload_n 0, 1) := fdd_d (by decide +kernel)
set_option maxRecDepth 100000 in
theorem xd_213499e1 : decode (ia_code 4) 60 = .ok (.getfield 56, 3) := fdd_d (by decide +kernel)
set_option maxRecDepth 100000 in
theorem xf_91513225 : wk_gf 4 56 0 9 (47 + 3) = true := by decide +kernel
set_option maxRecDepth 100000 in
theorem xd_7c8c4512 : decode (ia_code 4) 63 = .ok (.aload_n 0, 1) := fdd_d (by decide +kernel)
set_option maxRecDepth 100000 in
theorem xd_11d500bf : decode (ia_code 4) 64 = .ok (.getfield 46, 3) := fdd_d (by decide +kernel)
set_option maxRecDepth 100000 in
theorem xl_560996d3 : ia_pl (ia_cls 4) 269 = some (1, 55, 0, 0, 917) := by decide +kernel
set_option maxRecDepth 100000 in
theorem xd_a0cb6f2b : decode (ia_code 4) 67 = .ok (.invokevirtual 269, 3) := fdd_d (by decide +kernel)
set_option maxRecDepth 100000 in
theorem xd_8b4c1908 : decode (ia_code 4) 70 = .ok (.aload_n 0, 1) := fdd_d (by decide +kernel)
set_option maxRecDepth 100000 in
theorem xd_ac3a99a2 : decode (ia_code 4) 71 = .ok (.getfield 79, 3) := fdd_d (by decide +kernel)
set_option maxRecDepth 100000 in
theorem xd_8b10b89b : decode (ia_code 4) 74 = .ok (.aload_n 0, 1) := fdd_d (by decide +kernel)
set_option maxRecDepth 100000 in
theorem xd_53433626 : decode (ia_code 4) 75 = .ok (.getfield 46, 3) := fdd_d (by decide +kernel)
set_option maxRecDepth 100000 in
theorem xd_131ae694 : decode (ia_code 4) 78 = .ok (.invokevirtual 358, 3) := fdd_d (by decide +kernel)
set_option maxRecDepth 100000 in
theorem xd_6d4b68fe : decode (ia_code 4) 81 = .ok (.ireturn, 1) := fdd_d (by decide +kernel)
set_option maxRecDepth 100000 in
theorem xd_db944ec5 : decode (ia_code 4) 43 = .ok (.bipush (-2), 2) := fdd_d (by decide +kernel)
set_option maxRecDepth 100000 in
theorem xd_487dfb67 : decode (ia_code 4) 45 = .ok (.aload_n 0, 1) := fdd_d (by decide +kernel)
set_option maxRecDepth 100000 in
theorem xd_7b04425f : decode (ia_code 4) 46 = .ok (.getfield 18, 3) := fdd_d (by decide +kernel)
set_option maxRecDepth 100000 in
theorem xd_36952332 : decode (ia_code 4) 49 = .ok (.getfield 128, 3) := fdd_d (by decide +kernel)
set_option maxRecDepth 100000 in
theorem xf_ec6e8f86 : wk_gf 4 128 2 12 0 = true := by decide +kernel
set_option maxRecDepth 100000 in
theorem xd_878b53be : decode (ia_code 4) 52 = .ok (.isub, 1) := fdd_d (by decide +kernel)
set_option maxRecDepth 100000 in
theorem xd_7b45b843 : decode (ia_code 4) 53 = .ok (.ireturn, 1) := fdd_d (by decide +kernel)
set_option maxRecDepth 100000 in
theorem xd_18d366b6 : decode (ia_code 4) 4 = .ok (.iload_n 1, 1) := fdd_d (by decide +kernel)
set_option maxRecDepth 100000 in
theorem xd_08e8a315 : decode (ia_code 4) 5 = .ok (.iconst 1, 1) := fdd_d (by decide +kernel)
set_option maxRecDepth 100000 in
theorem xd_f0e9e087 : decode (ia_code 4) 6 = .ok (.if_icmp .eq 7, 3) := fdd_d (by decide +kernel)
set_option maxRecDepth 100000 in
theorem xd_02e735e7 : decode (ia_code 4) 9 = .ok (.sipush (-1000), 3) := fdd_d (by decide +kernel)
set_option maxRecDepth 100000 in
theorem xd_b83ea8dd : decode (ia_code 4) 12 = .ok (.ireturn, 1) := fdd_d (by decide +kernel)
def jLf (w0 w : cm_W) : Prop := ∀ k i, ¬ (33 ≤ k ∧ k ≤ 46) → w.1 k i = w0.1 k i
theorem jLf_rf {a : cm_W} : jLf a a := fun _ _ _ => rfl
theorem jle_33 {w : cm_W} {p f : Int32} (hp : 0 ≤ p.toInt ∧ p.toInt ≤ 5) (hf : 0 ≤ f.toInt ∧ f.toInt ≤ 3) (hc : jCl w) (hG : sv_w sg w) : ∃ x w', cm_C 3 165 [.inr (.inr (some 33)), .inl p, .inl f] w (some (.inl x), w') ∧ sv_w sg w' ∧ jLf w w' ∧ jCl w' := by
  have h : ∃ o, cm_C (2 + 1) 165 [.inr (.inr (some 33)), .inl p, .inl f] w o ∧ (fun o : cm_O => ∃ x w', o = (some (.inl x), w') ∧ sv_w sg w' ∧ jLf w w' ∧ jCl w') o := by
    refine wk_entry (by rw [xm_5219da0d]; exact Nat.le_of_ble_eq_true rfl) ?_
    rw [show cm_ent 165 [.inr (.inr (some 33)), .inl p, .inl f] = [some (.inr (.inr (some 33))), some (.inl p), some (.inl f), none] from by unfold cm_ent; rw [xm_5219da0d]; rfl]
    refine wk_aload_n xd_492b8204 rfl ?_
    refine wk_iload_n xd_b53b920d rfl ?_
    refine wk_iload_n xd_847ed1e0 rfl ?_
    obtain ⟨xw, hCw, hw0, hw1, hw2⟩ := jwe_ok (w := w) (p := p) (f := f) hp hf hG
    refine wk_call (kd := 0) (i := 118) xd_47477980 rfl (wk_cal (as := [.inr (.inr (some 33)), .inl p, .inl f]) (t := []) xl_d975d9e9 rfl xn_db8deddf xc_9c1060a0 rfl rfl xv_fd1b3353 rfl) (cm_C_mono (by omega) hCw) ?_
    refine wk_istore_n xd_50c8cf4d (by rw [xm_5219da0d]; rfl) rfl ?_
    refine wk_iload_n xd_2231b317 rfl ?_
    refine wk_if xd_b0cb4107 (t := 17) rfl (fun h8_0 => ?_) (fun h8_0 => ?_)
    · have h8_0 := aw_ne_t (a := ((xw).toInt : Int)) (b := (0 : Int)) rfl hb_z h8_0
      refine wk_iload_n xd_e45603c3 rfl ?_
      exact wk_ireturn xd_bdfdaa7c xr_8e04b165 rfl ⟨_, _, rfl, hG, jLf_rf, hc⟩
    · have h8_0 := aw_ne_f (a := ((xw).toInt : Int)) (b := (0 : Int)) rfl hb_z h8_0
      refine wk_aload_n xd_143fd804 rfl ?_
      refine wk_iload_n xd_05b91be4 rfl ?_
      refine wk_iload_n xd_d96a8be0 rfl ?_
      obtain ⟨wt, hCt, hGt, hFt_, hct⟩ := jtp_cl (w := w) (p := p) (f := f) hp hf (hw2 (by omega)) hc hG
      refine wk_call (kd := 0) (i := 121) xd_35f2e6b7 rfl (wk_cal (as := [.inr (.inr (some 33)), .inl p, .inl f]) (t := []) xl_50b85e2d rfl xn_2e0d4b1f xc_69cc67f3 rfl rfl xv_8c912979 rfl) (cm_C_mono (by omega) hCt) ?_
      have hft : jLf w wt := fun k i x1 => (hFt_ k i (by omega) (by omega) (by omega)).trans (jLf_rf k i x1)
      refine wk_iload_n xd_e45603c3 rfl ?_
      exact wk_ireturn xd_bdfdaa7c xr_8e04b165 rfl ⟨_, _, rfl, hGt, hft, hct⟩
  obtain ⟨o, hC, x, w', rfl, a⟩ := h
  exact ⟨x, w', hC, a⟩
theorem jlt_33 {w : cm_W} {p m n : Int32} (hp : 0 ≤ p.toInt ∧ p.toInt ≤ 5) (hc : jCl w) (hG : sv_w sg w) : ∃ x w', cm_C 2 169 [.inr (.inr (some 33)), .inl p, .inl m, .inl n] w (some (.inl x), w') ∧ sv_w sg w' ∧ jLf w w' ∧ jCl w' := by
  have h : ∃ o, cm_C (1 + 1) 169 [.inr (.inr (some 33)), .inl p, .inl m, .inl n] w o ∧ (fun o : cm_O => ∃ x w', o = (some (.inl x), w') ∧ sv_w sg w' ∧ jLf w w' ∧ jCl w') o := by
    refine wk_entry (by rw [xm_97e9370c]; exact Nat.le_of_ble_eq_true rfl) ?_
    rw [show cm_ent 169 [.inr (.inr (some 33)), .inl p, .inl m, .inl n] = [some (.inr (.inr (some 33))), some (.inl p), some (.inl m), some (.inl n)] from by unfold cm_ent; rw [xm_97e9370c]; rfl]
    refine wk_iload_n xd_2b3590db rfl ?_
    refine wk_if xd_c647d64d (t := 11) rfl (fun h1_0 => ?_) (fun h1_0 => ?_)
    · have h1_0 := aw_ne_t (a := ((n).toInt : Int)) (b := (0 : Int)) rfl hb_z h1_0
      refine wk_iload_n xd_973fe5c6 rfl ?_
      refine wk_iload_n xd_dcbaf54b rfl ?_
      refine wk_iadd xd_4e06db37 ?_
      exact wk_ireturn xd_5d407efd xr_14be089e rfl ⟨_, _, rfl, hG, jLf_rf, hc⟩
    · have h1_0 := aw_ne_f (a := ((n).toInt : Int)) (b := (0 : Int)) rfl hb_z h1_0
      refine wk_aload_n xd_36ca98f5 rfl ?_
      refine wk_iload_n xd_cada88fc rfl ?_
      obtain ⟨wc2_, hCc2_, hGc2_, hFc2_, hxc2_⟩ := xs_213_ec8c1eaf (w := w) (a1 := p) (by have e9 : (p).toInt = ((p).toInt : Int) := rfl; exact ⟨by omega, by omega⟩) hG
      refine wk_call (kd := 0) (i := 125) xd_61514f23 rfl (wk_cal (as := [.inr (.inr (some 33)), .inl p]) (t := []) xl_88825cbf rfl xn_646a5239 xc_cfdfa497 rfl rfl xv_7d4b2cd3 rfl) (cm_C_mono (by omega) hCc2_) ?_
      have hf3_ : jLf w wc2_ := fun k i x1 => ((hFc2_ k i (by omega)).1).trans (jLf_rf k i x1)
      have hc4_ : jCl wc2_ := jCl_fr (fun k i hs => by unfold jSup at hs; exact (hFc2_ k i (by omega)).1) hc
      refine wk_iconst xd_c329ec43 ?_
      exact wk_ireturn xd_4fb97a46 xr_14be089e rfl ⟨_, _, rfl, hGc2_, hf3_, hc4_⟩
  obtain ⟨o, hC, x, w', rfl, a⟩ := h
  exact ⟨x, w', hC, a⟩
theorem jlm_33 {w : cm_W} {m : Int32} (hm : 0 ≤ m.toInt ∧ m.toInt ≤ 5) (hc : jCl w) (hG : sv_w sg w) : ∃ x w', cm_C 5 168 [.inr (.inr (some 33)), .inl m] w (some (.inl x), w') ∧ sv_w sg w' ∧ jLf w w' ∧ jCl w' := by
  have h : ∃ o, cm_C (4 + 1) 168 [.inr (.inr (some 33)), .inl m] w o ∧ (fun o : cm_O => ∃ x w', o = (some (.inl x), w') ∧ sv_w sg w' ∧ jLf w w' ∧ jCl w') o := by
    refine wk_entry (by rw [xm_34ed8b1f]; exact Nat.le_of_ble_eq_true rfl) ?_
    rw [show cm_ent 168 [.inr (.inr (some 33)), .inl m] = [some (.inr (.inr (some 33))), some (.inl m), none] from by unfold cm_ent; rw [xm_34ed8b1f]; rfl]
    refine wk_aload_n xd_d18b9ff1 rfl ?_
    refine wk_iload_n xd_2d9b8ff8 rfl ?_
    obtain ⟨xc1_, hCc1_, hxc1_⟩ := xs_217_ec8c1eaf (w := w) (a1 := m) (by have e9 : (m).toInt = ((m).toInt : Int) := rfl; exact ⟨by omega, by omega⟩) hG
    refine wk_call (kd := 0) (i := 129) xd_bbbc5050 rfl (wk_cal (as := [.inr (.inr (some 33)), .inl m]) (t := []) xl_3169d1a4 rfl xn_91eaf4f9 xc_3a03a3c4 rfl rfl xv_0cc136f9 rfl) (cm_C_mono (by omega) hCc1_) ?_
    refine wk_istore_n xd_f8f9e95b (by rw [xm_34ed8b1f]; rfl) rfl ?_
    refine wk_iload_n xd_1c826d86 rfl ?_
    refine wk_if xd_467e6882 (t := 17) rfl (fun h7_1 => ?_) (fun h7_1 => ?_)
    · have h7_1 := aw_ne_t (a := ((xc1_).toInt : Int)) (b := (0 : Int)) rfl hb_z h7_1
      refine wk_bipush xd_ff6a5ebf ?_
      refine wk_iload_n xd_f90abda1 rfl ?_
      refine aw_iadd (a := (30 : Int)) (b := ((xc1_).toInt : Int)) (e := ((xc1_).toInt + 30 : Int)) xd_10fee43c (show (((Int8.ofInt 30).toInt32)).toInt = 30 from by decide) rfl (by omega) (by omega) (by omega) (fun v3_ p3_ => ?_)
      exact wk_ireturn xd_4c90c496 xr_c928d11b rfl ⟨_, _, rfl, hG, jLf_rf, hc⟩
    · have h7_1 := aw_ne_f (a := ((xc1_).toInt : Int)) (b := (0 : Int)) rfl hb_z h7_1
      refine wk_aload_n xd_4203945e rfl ?_
      refine wk_iload_n xd_be138457 rfl ?_
      obtain ⟨wc4_, hCc4_, hGc4_, hFc4_, hxc4_⟩ := xs_203_ec8c1eaf (w := w) (a1 := m) (by have e9 : (m).toInt = ((m).toInt : Int) := rfl; exact ⟨by omega, by omega⟩) hG
      refine wk_call (kd := 0) (i := 132) xd_121fd84b rfl (wk_cal (as := [.inr (.inr (some 33)), .inl m]) (t := []) xl_2112d45e rfl xn_af36819c xc_85a61215 rfl rfl xv_4bb9bc20 rfl) (cm_C_mono (by omega) hCc4_) ?_
      have hf5_ : jLf w wc4_ := fun k i x1 => ((hFc4_ k i (by omega)).1).trans (jLf_rf k i x1)
      have hc6_ : jCl wc4_ := jCl_fr (fun k i hs => by unfold jSup at hs; exact (hFc4_ k i (by omega)).1) hc
      refine wk_iconst xd_02b4fbc0 ?_
      exact wk_ireturn xd_1c0fef8e xr_c928d11b rfl ⟨_, _, rfl, hGc4_, hf5_, hc6_⟩
  obtain ⟨o, hC, x, w', rfl, a⟩ := h
  exact ⟨x, w', hC, a⟩
theorem jlh_33 {w : cm_W} {n : Int32} (hn : 1 ≤ n.toInt ∧ n.toInt ≤ 60) (hc : jCl w) (hG : sv_w sg w) : ∃ x w', cm_C 5 166 [.inr (.inr (some 33)), .inl n] w (some (.inl x), w') ∧ sv_w sg w' ∧ jLf w w' ∧ jCl w' := by
  have h : ∃ o, cm_C (4 + 1) 166 [.inr (.inr (some 33)), .inl n] w o ∧ (fun o : cm_O => ∃ x w', o = (some (.inl x), w') ∧ sv_w sg w' ∧ jLf w w' ∧ jCl w') o := by
    refine wk_entry (by rw [xm_fcda05e8]; exact Nat.le_of_ble_eq_true rfl) ?_
    rw [show cm_ent 166 [.inr (.inr (some 33)), .inl n] = [some (.inr (.inr (some 33))), some (.inl n)] from by unfold cm_ent; rw [xm_fcda05e8]; rfl]
    refine wk_aload_n xd_bb7c6ffc rfl ?_
    refine wk_getI xf_75c21454 xd_a9bac247 ?_
    refine wk_iload_n xd_dc4334b2 rfl ?_
    refine wk_iadd xd_3312bf6c ?_
    refine wk_sipush xd_9b59d1f9 ?_
    refine wk_icmp xd_5c121bf7 (t := 15) rfl (fun h9_0 => ?_) (fun h9_0 => ?_)
    · have h9_0 := aw_le_t (a := (((w.1 33 1) + n).toInt : Int)) (b := (600 : Int)) rfl (show (((Int16.ofInt 600).toInt32)).toInt = 600 from by decide) h9_0
      refine wk_aload_n xd_a7f75454 rfl ?_
      refine wk_iload_n xd_b67197b4 rfl ?_
      obtain ⟨xc2_, wc2_, hCc2_, hGc2_, hFc2_, hxc2_⟩ := xs_79_b52f6398 (w := w) (a1 := n) (by have e9 : (n).toInt = ((n).toInt : Int) := rfl; exact ⟨by omega, by omega⟩) hG
      refine wk_call (kd := 0) (i := 135) xd_93d594b8 rfl (wk_cal (as := [.inr (.inr (some 33)), .inl n]) (t := []) xl_e55093ac rfl xn_34aa8679 xc_c424f1c9 rfl rfl xv_e3eec055 rfl) (cm_C_mono (by omega) hCc2_) ?_
      have hf3_ : jLf w wc2_ := fun k i x1 => ((hFc2_ k i (by omega)).1).trans (jLf_rf k i x1)
      have hc4_ : jCl wc2_ := jCl_fr (fun k i hs => by unfold jSup at hs; exact (hFc2_ k i (by omega)).1) hc
      refine wk_pop xd_b218a1fa ?_
      refine wk_iconst xd_4207a1f0 ?_
      exact wk_ireturn xd_705eb964 xr_33ceddab rfl ⟨_, _, rfl, hGc2_, hf3_, hc4_⟩
    · have h9_0 := aw_le_f (a := (((w.1 33 1) + n).toInt : Int)) (b := (600 : Int)) rfl (show (((Int16.ofInt 600).toInt32)).toInt = 600 from by decide) h9_0
      refine wk_bipush xd_3afb87bd ?_
      exact wk_ireturn xd_bf1b11e2 xr_33ceddab rfl ⟨_, _, rfl, hG, jLf_rf, hc⟩
  obtain ⟨o, hC, x, w', rfl, a⟩ := h
  exact ⟨x, w', hC, a⟩
theorem jll_33 {w : cm_W} {q : Int32} {i : Nat} (hq : q.toInt = (i : Int)) (hi : i < 40) (hr : jBw w i) (hc : jCl w) (hG : sv_w sg w) : ∃ x w', cm_C 6 167 [.inr (.inr (some 116)), .inr (.inr (some 33)), .inl q] w (some (.inl x), w') ∧ sv_w sg w' ∧ jLf w w' ∧ jCl w' := by
  have gw := hG 118 i
  rw [xh_9d6ca2bf i hi] at gw
  have gw := hb_in gw
  unfold jBw at hr
  have h : ∃ o, cm_C (5 + 1) 167 [.inr (.inr (some 116)), .inr (.inr (some 33)), .inl q] w o ∧ (fun o : cm_O => ∃ x w', o = (some (.inl x), w') ∧ sv_w sg w' ∧ jLf w w' ∧ jCl w') o := by
    refine wk_entry (by rw [xm_b6bd1cce]; exact Nat.le_of_ble_eq_true rfl) ?_
    rw [show cm_ent 167 [.inr (.inr (some 116)), .inr (.inr (some 33)), .inl q] = [some (.inr (.inr (some 116))), some (.inr (.inr (some 33))), some (.inl q)] from by unfold cm_ent; rw [xm_b6bd1cce]; rfl]
    refine wk_aload_n xd_5c61c96b rfl ?_
    refine wk_getR xf_e808c97d xd_82100ce3 ?_
    refine wk_iload_n xd_7cfee8f5 rfl ?_
    refine aw_iaload (i := i) xf_cc076ad5 hq (by omega) (by omega) xd_ae26c2e8 ?_
    have hkw : (w.1 117 i).toInt < 6 ∨ 9 < (w.1 117 i).toInt ∨ (w.1 117 i).toInt = 6 ∨ (w.1 117 i).toInt = 7 ∨ (w.1 117 i).toInt = 8 ∨ (w.1 117 i).toInt = 9 := by omega
    rcases hkw with hkw | hkw | hkw | hkw | hkw | hkw
    · refine aw_tsd xd_00a66000 rfl (.inl hkw) (t := 110) rfl ?_
      refine wk_aload_n xd_303f9027 rfl ?_
      refine wk_aload_n xd_962c5343 rfl ?_
      refine wk_getR xf_4fba20d1 xd_52e15672 ?_
      refine wk_iload_n xd_b6b372dd rfl ?_
      refine aw_iaload (i := i) xf_079c3f55 hq (by omega) (by omega) xd_2415ee05 ?_
      obtain ⟨xE, wE, hCE, hGE, hFE, hcE⟩ := jlh_33 (w := w) (n := (w.1 119 i)) (by omega) hc hG
      refine wk_call (kd := 1) (i := 115) xd_bc7ba812 rfl (wk_cal (as := [.inr (.inr (some 33)), .inl (w.1 119 i)]) (t := []) xl_fc5dc36c rfl xn_8067f76c xc_b408cba1 rfl rfl rfl rfl) (cm_C_mono (by omega) hCE) ?_
      have hf1_ : jLf w wE := fun k i x1 => (hFE k i x1).trans (jLf_rf k i x1)
      exact wk_ireturn xd_df54231f xr_ee58042e rfl ⟨_, _, rfl, hGE, hf1_, hcE⟩
    · refine aw_tsd xd_00a66000 rfl (.inr hkw) (t := 110) rfl ?_
      refine wk_aload_n xd_303f9027 rfl ?_
      refine wk_aload_n xd_962c5343 rfl ?_
      refine wk_getR xf_4fba20d1 xd_52e15672 ?_
      refine wk_iload_n xd_b6b372dd rfl ?_
      refine aw_iaload (i := i) xf_079c3f55 hq (by omega) (by omega) xd_2415ee05 ?_
      obtain ⟨xE, wE, hCE, hGE, hFE, hcE⟩ := jlh_33 (w := w) (n := (w.1 119 i)) (by omega) hc hG
      refine wk_call (kd := 1) (i := 115) xd_bc7ba812 rfl (wk_cal (as := [.inr (.inr (some 33)), .inl (w.1 119 i)]) (t := []) xl_fc5dc36c rfl xn_8067f76c xc_b408cba1 rfl rfl rfl rfl) (cm_C_mono (by omega) hCE) ?_
      have hf2_ : jLf w wE := fun k i x1 => (hFE k i x1).trans (jLf_rf k i x1)
      exact wk_ireturn xd_df54231f xr_ee58042e rfl ⟨_, _, rfl, hGE, hf2_, hcE⟩
    · refine aw_tsw xd_00a66000 hkw (by omega) (by omega) (t := 36) rfl rfl ?_
      refine wk_aload_n xd_5bc59397 rfl ?_
      refine wk_aload_n xd_fdd650f3 rfl ?_
      refine wk_getR xf_47508873 xd_000bdf77 ?_
      refine wk_iload_n xd_01c795f3 rfl ?_
      refine aw_iaload (i := i) xf_9a93de23 hq (by omega) (by omega) xd_acb1a67b ?_
      refine wk_aload_n xd_cc92c617 rfl ?_
      refine wk_getR xf_4fba20d1 xd_f7eeb9ac ?_
      refine wk_iload_n xd_ec0de789 rfl ?_
      refine aw_iaload (i := i) xf_079c3f55 hq (by omega) (by omega) xd_fba40645 ?_
      obtain ⟨xE, wE, hCE, hGE, hFE, hcE⟩ := jle_33 (w := w) (p := (w.1 118 i)) (f := (w.1 119 i)) (by omega) (by omega) hc hG
      refine wk_call (kd := 1) (i := 97) xd_221981d7 rfl (wk_cal (as := [.inr (.inr (some 33)), .inl (w.1 118 i), .inl (w.1 119 i)]) (t := []) xl_267450a7 rfl xn_b0c0bd2a xc_854d884c rfl rfl rfl rfl) (cm_C_mono (by omega) hCE) ?_
      have hf3_ : jLf w wE := fun k i x1 => (hFE k i x1).trans (jLf_rf k i x1)
      exact wk_ireturn xd_b00c172a xr_ee58042e rfl ⟨_, _, rfl, hGE, hf3_, hcE⟩
    · refine aw_tsw xd_00a66000 hkw (by omega) (by omega) (t := 53) rfl rfl ?_
      refine wk_aload_n xd_70d78a80 rfl ?_
      refine wk_aload_n xd_3b0e3b9e rfl ?_
      refine wk_getR xf_47508873 xd_4de84b84 ?_
      refine wk_iload_n xd_1b285926 rfl ?_
      refine aw_iaload (i := i) xf_9a93de23 hq (by omega) (by omega) xd_0119be9d ?_
      refine wk_bipush xd_e554c061 ?_
      refine wk_aload_n xd_b3bac97c rfl ?_
      refine wk_aload_n xd_15a90a18 rfl ?_
      refine wk_getR xf_47508873 xd_1a343672 ?_
      refine wk_iload_n xd_35362b86 rfl ?_
      refine aw_iaload (i := i) xf_9a93de23 hq (by omega) (by omega) xd_1f600738 ?_
      obtain ⟨xc4_, hCc4_, hxc4_⟩ := xs_215_ec8c1eaf (w := w) (a1 := (w.1 118 i)) (by have e9 : ((w.1 118 i)).toInt = ((w.1 118 i).toInt : Int) := rfl; exact ⟨by omega, by omega⟩) hG
      refine wk_call (kd := 0) (i := 101) xd_c6a571e5 rfl (wk_cal (as := [.inr (.inr (some 33)), .inl (w.1 118 i)]) (t := [.inl ((Int8.ofInt 10).toInt32), .inl (w.1 118 i), .inr (.inr (some 33))]) xl_83288c5e rfl xn_eb2aa799 xc_ad55234d rfl rfl xv_34043bec rfl) (cm_C_mono (by omega) hCc4_) ?_
      obtain ⟨xE, wE, hCE, hGE, hFE, hcE⟩ := jlt_33 (w := w) (p := (w.1 118 i)) (m := ((Int8.ofInt 10).toInt32)) (n := xc4_) (by omega) hc hG
      refine wk_call (kd := 1) (i := 105) xd_405bf81b rfl (wk_cal (as := [.inr (.inr (some 33)), .inl (w.1 118 i), .inl ((Int8.ofInt 10).toInt32), .inl xc4_]) (t := []) xl_94ef2acb rfl xn_eb54c588 xc_405887f8 rfl rfl rfl rfl) (cm_C_mono (by omega) hCE) ?_
      have hf5_ : jLf w wE := fun k i x1 => (hFE k i x1).trans (jLf_rf k i x1)
      exact wk_ireturn xd_f7bb58f2 xr_ee58042e rfl ⟨_, _, rfl, hGE, hf5_, hcE⟩
    · refine aw_tsw xd_00a66000 hkw (by omega) (by omega) (t := 76) rfl rfl ?_
      refine wk_aload_n xd_32c30dc8 rfl ?_
      refine wk_aload_n xd_94d0ceac rfl ?_
      refine wk_getR xf_47508873 xd_2a9f49a9 ?_
      refine wk_iload_n xd_bacc3712 rfl ?_
      refine aw_iaload (i := i) xf_9a93de23 hq (by omega) (by omega) xd_9bbaabb6 ?_
      refine wk_bipush xd_7715e51c ?_
      refine wk_aload_n xd_a7333f3c rfl ?_
      refine wk_aload_n xd_ecb62fb1 rfl ?_
      refine wk_getR xf_47508873 xd_452e702c ?_
      refine wk_iload_n xd_a09ab8e1 rfl ?_
      refine aw_iaload (i := i) xf_9a93de23 hq (by omega) (by omega) xd_abc965e2 ?_
      obtain ⟨xc6_, hCc6_, hxc6_⟩ := xs_218_ec8c1eaf (w := w) (a1 := (w.1 118 i)) (by have e9 : ((w.1 118 i)).toInt = ((w.1 118 i).toInt : Int) := rfl; exact ⟨by omega, by omega⟩) hG
      refine wk_call (kd := 0) (i := 109) xd_c943631e rfl (wk_cal (as := [.inr (.inr (some 33)), .inl (w.1 118 i)]) (t := [.inl ((Int8.ofInt 20).toInt32), .inl (w.1 118 i), .inr (.inr (some 33))]) xl_7bbc5e35 rfl xn_13ba6328 xc_ce53ef9d rfl rfl xv_57401038 rfl) (cm_C_mono (by omega) hCc6_) ?_
      obtain ⟨xE, wE, hCE, hGE, hFE, hcE⟩ := jlt_33 (w := w) (p := (w.1 118 i)) (m := ((Int8.ofInt 20).toInt32)) (n := xc6_) (by omega) hc hG
      refine wk_call (kd := 1) (i := 105) xd_a416654d rfl (wk_cal (as := [.inr (.inr (some 33)), .inl (w.1 118 i), .inl ((Int8.ofInt 20).toInt32), .inl xc6_]) (t := []) xl_94ef2acb rfl xn_eb54c588 xc_405887f8 rfl rfl rfl rfl) (cm_C_mono (by omega) hCE) ?_
      have hf7_ : jLf w wE := fun k i x1 => (hFE k i x1).trans (jLf_rf k i x1)
      exact wk_ireturn xd_94d8aa21 xr_ee58042e rfl ⟨_, _, rfl, hGE, hf7_, hcE⟩
    · refine aw_tsw xd_00a66000 hkw (by omega) (by omega) (t := 99) rfl rfl ?_
      refine wk_aload_n xd_26f3b8ae rfl ?_
      refine wk_aload_n xd_8c7adcb0 rfl ?_
      refine wk_getR xf_4fba20d1 xd_801146b6 ?_
      refine wk_iload_n xd_ace5fd2e rfl ?_
      refine aw_iaload (i := i) xf_079c3f55 hq (by omega) (by omega) xd_14662051 ?_
      obtain ⟨xE, wE, hCE, hGE, hFE, hcE⟩ := jlm_33 (w := w) (m := (w.1 119 i)) (by omega) hc hG
      refine wk_call (kd := 1) (i := 112) xd_3cdc7fdb rfl (wk_cal (as := [.inr (.inr (some 33)), .inl (w.1 119 i)]) (t := []) xl_700ee11c rfl xn_3f57490d xc_e64b449c rfl rfl rfl rfl) (cm_C_mono (by omega) hCE) ?_
      have hf8_ : jLf w wE := fun k i x1 => (hFE k i x1).trans (jLf_rf k i x1)
      exact wk_ireturn xd_4b2c6077 xr_ee58042e rfl ⟨_, _, rfl, hGE, hf8_, hcE⟩
  obtain ⟨o, hC, x, w', rfl, a⟩ := h
  exact ⟨x, w', hC, a⟩
theorem jlv_l33 (w1 : cm_W) (N : Nat) (hN : N ≤ 40) (Q : cm_O → Prop) (hk : ∀ w x2 z, jLf w1 w → jCl w → sv_w sg w → cm_X (cm_C 6) 49 33 [some (.inr (.inr (some 116))), some (.inr (.inr (some 33))), some (.inl x2), some (.inl z)] [] w Q) : ∀ (n i : Nat) (x2 z : Int32) (w : cm_W), n + i = N → z.toInt = (i : Int) → (w.1 116 2).toInt = ((N : Int) : Int) → (∀ j, j < N → jBw w j) → jLf w1 w → jCl w → sv_w sg w → cm_X (cm_C 6) 49 4 [some (.inr (.inr (some 116))), some (.inr (.inr (some 33))), some (.inl x2), some (.inl z)] [] w Q := by
  intro n
  induction n with
  | zero =>
    intro i x2 z w hi hz hn hrows hF hc hG
    refine wk_iload_n xd_fb1201ad rfl ?_
    refine wk_aload_n xd_7dc242c4 rfl ?_
    refine wk_getI xf_ce7c410c xd_56ee1af0 ?_
    refine wk_icmp xd_88f17498 (t := 33) rfl (fun h9_0 => ?_) (fun h9_0 => ?_)
    · have h9_0 := aw_ge_t (a := ((i : Int) : Int)) (b := ((N : Int) : Int)) hz (show ((w.1 116 2)).toInt = ((N : Int) : Int) from hn) h9_0
      exact hk w x2 z hF hc hG
    · have h9_0 := aw_ge_f (a := ((i : Int) : Int)) (b := ((N : Int) : Int)) hz (show ((w.1 116 2)).toInt = ((N : Int) : Int) from hn) h9_0
      exfalso
      omega
  | succ n ih =>
    intro i x2 z w hi hz hn hrows hF hc hG
    refine wk_iload_n xd_fb1201ad rfl ?_
    refine wk_aload_n xd_7dc242c4 rfl ?_
    refine wk_getI xf_ce7c410c xd_56ee1af0 ?_
    refine wk_icmp xd_88f17498 (t := 33) rfl (fun h9_1 => ?_) (fun h9_1 => ?_)
    · have h9_1 := aw_ge_t (a := ((i : Int) : Int)) (b := ((N : Int) : Int)) hz (show ((w.1 116 2)).toInt = ((N : Int) : Int) from hn) h9_1
      exfalso
      omega
    · have h9_1 := aw_ge_f (a := ((i : Int) : Int)) (b := ((N : Int) : Int)) hz (show ((w.1 116 2)).toInt = ((N : Int) : Int) from hn) h9_1
      refine wk_iload_n xd_316ab13c rfl ?_
      refine wk_if xd_e5ce5d17 (t := 33) rfl (fun h13_2 => ?_) (fun h13_2 => ?_)
      · have h13_2 := aw_ne_t (a := ((x2).toInt : Int)) (b := (0 : Int)) rfl hb_z h13_2
        exact hk w x2 z hF hc hG
      · have h13_2 := aw_ne_f (a := ((x2).toInt : Int)) (b := (0 : Int)) rfl hb_z h13_2
        refine wk_aload_n xd_11f590a2 rfl ?_
        refine wk_aload_n xd_b7e653c6 rfl ?_
        refine wk_iload_n xd_e1250843 rfl ?_
        obtain ⟨xL, wL, hCL, hGL, hFL, hcL⟩ := jll_33 (w := w) (q := z) (i := i) hz (by omega) (hrows i (by omega)) hc hG
        refine wk_call (kd := 0) (i := 84) xd_c433e18d rfl (wk_cal (as := [.inr (.inr (some 116)), .inr (.inr (some 33)), .inl z]) (t := []) xl_2e9ae9cc rfl xn_ca00ee4a xc_121b08c5 rfl rfl xv_6aacab46 rfl) (cm_C_mono (by omega) hCL) ?_
        have hf4_ : jLf w1 wL := fun k i x1 => (hFL k i x1).trans (hF k i x1)
        refine wk_istore_n xd_be93446e (by rw [xm_3a40622c]; rfl) rfl ?_
        refine wk_iload_n xd_f207f2c0 rfl ?_
        refine wk_if xd_4a96fd57 (t := 4) rfl (fun h24_4 => ?_) (fun h24_4 => ?_)
        · have h24_4 := aw_ne_t (a := ((xL).toInt : Int)) (b := (0 : Int)) rfl hb_z h24_4
          have hnL : (wL.1 116 2).toInt = ((N : Int) : Int) := by rw [hFL 116 2 (by omega)]; exact hn
          refine wk_iload_n xd_fb1201ad rfl ?_
          refine wk_aload_n xd_7dc242c4 rfl ?_
          refine wk_getI xf_ce7c410c xd_56ee1af0 ?_
          refine wk_icmp xd_88f17498 (t := 33) rfl (fun h9_205 => ?_) (fun h9_205 => ?_)
          · have h9_205 := aw_ge_t (a := ((i : Int) : Int)) (b := ((N : Int) : Int)) hz (show ((wL.1 116 2)).toInt = ((N : Int) : Int) from hnL) h9_205
            exfalso
            omega
          · have h9_205 := aw_ge_f (a := ((i : Int) : Int)) (b := ((N : Int) : Int)) hz (show ((wL.1 116 2)).toInt = ((N : Int) : Int) from hnL) h9_205
            refine wk_iload_n xd_316ab13c rfl ?_
            refine wk_if xd_e5ce5d17 (t := 33) rfl (fun h13_206 => ?_) (fun h13_206 => ?_)
            · have h13_206 := aw_ne_t (a := ((xL).toInt : Int)) (b := (0 : Int)) rfl hb_z h13_206
              exact hk wL xL z hf4_ hcL hGL
            · have h13_206 := aw_ne_f (a := ((xL).toInt : Int)) (b := (0 : Int)) rfl hb_z h13_206
              exfalso
              omega
        · have h24_4 := aw_ne_f (a := ((xL).toInt : Int)) (b := (0 : Int)) rfl hb_z h24_4
          refine aw_iinc (a := ((i : Int) : Int)) (b := (1 : Int)) (e := ((i : Int) + 1 : Int)) xd_c416bd02 (by rw [xm_3a40622c]; rfl) rfl rfl hz (show ((Int32.ofInt 1)).toInt = 1 from by decide) (by omega) (by omega) (by omega) (fun v6_ p6_ => ?_)
          refine wk_goto xd_4fb0d052 (t := 4) rfl ?_
          exact ih (i + 1) _ _ wL (by omega) (by rw [p6_]; omega) (by rw [hFL 116 2 (by omega)]; exact hn) (fun j hj => jBw_eq (hFL 117 j (by omega)) (hFL 119 j (by omega)) (hrows j hj)) hf4_ hcL hGL
theorem jlv_33 {w : cm_W} {N : Nat} (hN : N ≤ 40) (hn : (w.1 116 2).toInt = ((N : Int) : Int)) (hrows : ∀ j, j < N → jBw w j) (hc : jCl w) (hG : sv_w sg w) : ∃ x w', cm_C 7 49 [.inr (.inr (some 116)), .inr (.inr (some 33))] w (some (.inl x), w') ∧ sv_w sg w' ∧ (∀ k i, ¬ (33 ≤ k ∧ k ≤ 46) → k ≠ 116 → w'.1 k i = w.1 k i) ∧ jCl w' := by
  have h : ∃ o, cm_C (6 + 1) 49 [.inr (.inr (some 116)), .inr (.inr (some 33))] w o ∧ (fun o : cm_O => ∃ x w', o = (some (.inl x), w') ∧ sv_w sg w' ∧ (∀ k i, ¬ (33 ≤ k ∧ k ≤ 46) → k ≠ 116 → w'.1 k i = w.1 k i) ∧ jCl w') o := by
    refine wk_entry (by rw [xm_3a40622c]; exact Nat.le_of_ble_eq_true rfl) ?_
    rw [show cm_ent 49 [.inr (.inr (some 116)), .inr (.inr (some 33))] = [some (.inr (.inr (some 116))), some (.inr (.inr (some 33))), none, none] from by unfold cm_ent; rw [xm_3a40622c]; rfl]
    refine wk_iconst xd_7664bc66 ?_
    refine wk_istore_n xd_2fc30182 (by rw [xm_3a40622c]; rfl) rfl ?_
    refine wk_iconst xd_583475e6 ?_
    refine wk_istore_n xd_cb98e43d (by rw [xm_3a40622c]; rfl) rfl ?_
    refine jlv_l33 w N hN _ (fun w2 x2 z hF2 hc2 hG2 => ?_) N 0 _ _ w (by omega) (by decide) hn hrows jLf_rf hc hG
    refine wk_aload_n xd_53e117ea rfl ?_
    refine wk_iload_n xd_059b0f49 rfl ?_
    refine wk_putI xf_3ea0fc6e (fun ci => wk_fitI ci) xd_30f67785 ?_
    have hG1_ : sv_w sg (cm_u1 w2 116 6 x2) := sv_w_u1 hG2 (by rw [xg_2484a5b3]; exact sv_in_top _)
    refine wk_aload_n xd_25bd6df1 rfl ?_
    refine wk_iload_n xd_a36d2e98 rfl ?_
    refine wk_putI xf_0553dbd7 (fun ci => wk_fitI ci) xd_43837096 ?_
    have hG2_ : sv_w sg (cm_u1 (cm_u1 w2 116 6 x2) 116 7 z) := sv_w_u1 hG1_ (by rw [xg_cb46ce8d]; exact sv_in_top _)
    refine wk_aload_n xd_62f9209d rfl ?_
    refine wk_aload_n xd_29209183 rfl ?_
    refine wk_getI xf_7cd565e0 xd_fd6fe18d ?_
    refine wk_putI xf_fd12c203 (fun ci => wk_fitI ci) xd_97182790 ?_
    have hG3_ : sv_w sg (cm_u1 (cm_u1 (cm_u1 w2 116 6 x2) 116 7 z) 116 8 ((cm_u1 (cm_u1 w2 116 6 x2) 116 7 z).1 33 1)) := sv_w_u1 hG2_ (by rw [xg_3a4d9500]; exact sv_in_top _)
    refine wk_aload_n xd_0e4a9653 rfl ?_
    refine wk_aload_n xd_45cf86de rfl ?_
    obtain ⟨xc4_, hCc4_, hxc4_⟩ := xs_75_4d1d0ea9 (w := (cm_u1 (cm_u1 (cm_u1 w2 116 6 x2) 116 7 z) 116 8 ((cm_u1 (cm_u1 w2 116 6 x2) 116 7 z).1 33 1))) hG3_
    refine wk_call (kd := 0) (i := 93) xd_c667956d rfl (wk_cal (as := [.inr (.inr (some 33))]) (t := [.inr (.inr (some 116))]) xl_8b80b613 rfl xn_68533ac2 xc_e436a9c8 rfl rfl xv_7170ee2b rfl) (cm_C_mono (by omega) hCc4_) ?_
    refine wk_putI xf_480d6ca0 (fun ci => wk_fitI ci) xd_f199cfc2 ?_
    have hG5_ : sv_w sg (cm_u1 (cm_u1 (cm_u1 (cm_u1 w2 116 6 x2) 116 7 z) 116 8 ((cm_u1 (cm_u1 w2 116 6 x2) 116 7 z).1 33 1)) 116 9 xc4_) := sv_w_u1 hG3_ (by rw [xg_d58ffe3e]; exact sv_in_top _)
    refine wk_iload_n xd_2e305578 rfl ?_
    refine wk_if xd_73b3e767 (t := 67) rfl (fun h60_5 => ?_) (fun h60_5 => ?_)
    · have h60_5 := aw_ne_t (a := ((x2).toInt : Int)) (b := (0 : Int)) rfl hb_z h60_5
      refine wk_iload_n xd_a63de4bc rfl ?_
      exact wk_ireturn xd_14b45f95 xr_9953d08e rfl ⟨_, _, rfl, hG5_, fun k i k1 k2 => by rw [hs_u1_ne (by omega), hs_u1_ne (by omega), hs_u1_ne (by omega), hs_u1_ne (by omega), hF2 k i k1], jCl_fr (fun k i hs => by unfold jSup at hs; rw [hs_u1_ne (by omega), hs_u1_ne (by omega), hs_u1_ne (by omega), hs_u1_ne (by omega)]) hc2⟩
    · have h60_5 := aw_ne_f (a := ((x2).toInt : Int)) (b := (0 : Int)) rfl hb_z h60_5
      refine wk_iconst xd_28424790 ?_
      refine wk_goto xd_3ea57f57 (t := 68) rfl ?_
      exact wk_ireturn xd_14b45f95 xr_9953d08e rfl ⟨_, _, rfl, hG5_, fun k i k1 k2 => by rw [hs_u1_ne (by omega), hs_u1_ne (by omega), hs_u1_ne (by omega), hs_u1_ne (by omega), hF2 k i k1], jCl_fr (fun k i hs => by unfold jSup at hs; rw [hs_u1_ne (by omega), hs_u1_ne (by omega), hs_u1_ne (by omega), hs_u1_ne (by omega)]) hc2⟩
  obtain ⟨o, hC, x, w', rfl, a⟩ := h
  exact ⟨x, w', hC, a⟩
theorem jle_40 {w : cm_W} {p f : Int32} (hp : 0 ≤ p.toInt ∧ p.toInt ≤ 5) (hf : 0 ≤ f.toInt ∧ f.toInt ≤ 3) (hc : jCl w) (hG : sv_w sg w) : ∃ x w', cm_C 3 165 [.inr (.inr (some 40)), .inl p, .inl f] w (some (.inl x), w') ∧ sv_w sg w' ∧ jLf w w' ∧ jCl w' := by
  have h : ∃ o, cm_C (2 + 1) 165 [.inr (.inr (some 40)), .inl p, .inl f] w o ∧ (fun o : cm_O => ∃ x w', o = (some (.inl x), w') ∧ sv_w sg w' ∧ jLf w w' ∧ jCl w') o := by
    refine wk_entry (by rw [xm_5219da0d]; exact Nat.le_of_ble_eq_true rfl) ?_
    rw [show cm_ent 165 [.inr (.inr (some 40)), .inl p, .inl f] = [some (.inr (.inr (some 40))), some (.inl p), some (.inl f), none] from by unfold cm_ent; rw [xm_5219da0d]; rfl]
    refine wk_aload_n xd_492b8204 rfl ?_
    refine wk_iload_n xd_b53b920d rfl ?_
    refine wk_iload_n xd_847ed1e0 rfl ?_
    obtain ⟨xc1_, hCc1_, hxc1_⟩ := xs_216_dd233472 (w := w) (a1 := p) (a2 := f) (by have e9 : (p).toInt = ((p).toInt : Int) := rfl; exact ⟨by omega, by omega⟩) (by have e9 : (f).toInt = ((f).toInt : Int) := rfl; exact ⟨by omega, by omega⟩) hG
    refine wk_call (kd := 0) (i := 118) xd_47477980 rfl (wk_cal (as := [.inr (.inr (some 40)), .inl p, .inl f]) (t := []) xl_d975d9e9 rfl xn_db8deddf xc_9c1060a0 rfl rfl xv_1061bcdd rfl) (cm_C_mono (by omega) hCc1_) ?_
    refine wk_istore_n xd_50c8cf4d (by rw [xm_5219da0d]; rfl) rfl ?_
    refine wk_iload_n xd_2231b317 rfl ?_
    refine wk_if xd_b0cb4107 (t := 17) rfl (fun h8_1 => ?_) (fun h8_1 => ?_)
    · have h8_1 := aw_ne_t (a := ((xc1_).toInt : Int)) (b := (0 : Int)) rfl hb_z h8_1
      refine wk_iload_n xd_e45603c3 rfl ?_
      exact wk_ireturn xd_bdfdaa7c xr_8e04b165 rfl ⟨_, _, rfl, hG, jLf_rf, hc⟩
    · have h8_1 := aw_ne_f (a := ((xc1_).toInt : Int)) (b := (0 : Int)) rfl hb_z h8_1
      refine wk_aload_n xd_143fd804 rfl ?_
      refine wk_iload_n xd_05b91be4 rfl ?_
      refine wk_iload_n xd_d96a8be0 rfl ?_
      obtain ⟨wc3_, hCc3_, hGc3_, hFc3_, hxc3_⟩ := xs_212_dd233472 (w := w) (a1 := p) (a2 := f) (by have e9 : (p).toInt = ((p).toInt : Int) := rfl; exact ⟨by omega, by omega⟩) (by have e9 : (f).toInt = ((f).toInt : Int) := rfl; exact ⟨by omega, by omega⟩) hG
      refine wk_call (kd := 0) (i := 121) xd_35f2e6b7 rfl (wk_cal (as := [.inr (.inr (some 40)), .inl p, .inl f]) (t := []) xl_50b85e2d rfl xn_2e0d4b1f xc_69cc67f3 rfl rfl xv_61eba6f7 rfl) (cm_C_mono (by omega) hCc3_) ?_
      have hf4_ : jLf w wc3_ := fun k i x1 => ((hFc3_ k i (by omega)).1).trans (jLf_rf k i x1)
      have hc5_ : jCl wc3_ := jCl_fr (fun k i hs => by unfold jSup at hs; exact (hFc3_ k i (by omega)).1) hc
      refine wk_iload_n xd_e45603c3 rfl ?_
      exact wk_ireturn xd_bdfdaa7c xr_8e04b165 rfl ⟨_, _, rfl, hGc3_, hf4_, hc5_⟩
  obtain ⟨o, hC, x, w', rfl, a⟩ := h
  exact ⟨x, w', hC, a⟩
theorem jlt_40 {w : cm_W} {p m n : Int32} (hp : 0 ≤ p.toInt ∧ p.toInt ≤ 5) (hc : jCl w) (hG : sv_w sg w) : ∃ x w', cm_C 2 169 [.inr (.inr (some 40)), .inl p, .inl m, .inl n] w (some (.inl x), w') ∧ sv_w sg w' ∧ jLf w w' ∧ jCl w' := by
  have h : ∃ o, cm_C (1 + 1) 169 [.inr (.inr (some 40)), .inl p, .inl m, .inl n] w o ∧ (fun o : cm_O => ∃ x w', o = (some (.inl x), w') ∧ sv_w sg w' ∧ jLf w w' ∧ jCl w') o := by
    refine wk_entry (by rw [xm_97e9370c]; exact Nat.le_of_ble_eq_true rfl) ?_
    rw [show cm_ent 169 [.inr (.inr (some 40)), .inl p, .inl m, .inl n] = [some (.inr (.inr (some 40))), some (.inl p), some (.inl m), some (.inl n)] from by unfold cm_ent; rw [xm_97e9370c]; rfl]
    refine wk_iload_n xd_2b3590db rfl ?_
    refine wk_if xd_c647d64d (t := 11) rfl (fun h1_0 => ?_) (fun h1_0 => ?_)
    · have h1_0 := aw_ne_t (a := ((n).toInt : Int)) (b := (0 : Int)) rfl hb_z h1_0
      refine wk_iload_n xd_973fe5c6 rfl ?_
      refine wk_iload_n xd_dcbaf54b rfl ?_
      refine wk_iadd xd_4e06db37 ?_
      exact wk_ireturn xd_5d407efd xr_14be089e rfl ⟨_, _, rfl, hG, jLf_rf, hc⟩
    · have h1_0 := aw_ne_f (a := ((n).toInt : Int)) (b := (0 : Int)) rfl hb_z h1_0
      refine wk_aload_n xd_36ca98f5 rfl ?_
      refine wk_iload_n xd_cada88fc rfl ?_
      obtain ⟨wc2_, hCc2_, hGc2_, hFc2_, hxc2_⟩ := xs_213_afa9fe39 (w := w) (a1 := p) (by have e9 : (p).toInt = ((p).toInt : Int) := rfl; exact ⟨by omega, by omega⟩) hG
      refine wk_call (kd := 0) (i := 125) xd_61514f23 rfl (wk_cal (as := [.inr (.inr (some 40)), .inl p]) (t := []) xl_88825cbf rfl xn_646a5239 xc_cfdfa497 rfl rfl xv_9031a35d rfl) (cm_C_mono (by omega) hCc2_) ?_
      have hf3_ : jLf w wc2_ := fun k i x1 => ((hFc2_ k i (by omega)).1).trans (jLf_rf k i x1)
      have hc4_ : jCl wc2_ := jCl_fr (fun k i hs => by unfold jSup at hs; exact (hFc2_ k i (by omega)).1) hc
      refine wk_iconst xd_c329ec43 ?_
      exact wk_ireturn xd_4fb97a46 xr_14be089e rfl ⟨_, _, rfl, hGc2_, hf3_, hc4_⟩
  obtain ⟨o, hC, x, w', rfl, a⟩ := h
  exact ⟨x, w', hC, a⟩
theorem jlm_40 {w : cm_W} {m : Int32} (hm : 0 ≤ m.toInt ∧ m.toInt ≤ 5) (hc : jCl w) (hG : sv_w sg w) : ∃ x w', cm_C 5 168 [.inr (.inr (some 40)), .inl m] w (some (.inl x), w') ∧ sv_w sg w' ∧ jLf w w' ∧ jCl w' := by
  have h : ∃ o, cm_C (4 + 1) 168 [.inr (.inr (some 40)), .inl m] w o ∧ (fun o : cm_O => ∃ x w', o = (some (.inl x), w') ∧ sv_w sg w' ∧ jLf w w' ∧ jCl w') o := by
    refine wk_entry (by rw [xm_34ed8b1f]; exact Nat.le_of_ble_eq_true rfl) ?_
    rw [show cm_ent 168 [.inr (.inr (some 40)), .inl m] = [some (.inr (.inr (some 40))), some (.inl m), none] from by unfold cm_ent; rw [xm_34ed8b1f]; rfl]
    refine wk_aload_n xd_d18b9ff1 rfl ?_
    refine wk_iload_n xd_2d9b8ff8 rfl ?_
    obtain ⟨xc1_, hCc1_, hxc1_⟩ := xs_217_afa9fe39 (w := w) (a1 := m) (by have e9 : (m).toInt = ((m).toInt : Int) := rfl; exact ⟨by omega, by omega⟩) hG
    refine wk_call (kd := 0) (i := 129) xd_bbbc5050 rfl (wk_cal (as := [.inr (.inr (some 40)), .inl m]) (t := []) xl_3169d1a4 rfl xn_91eaf4f9 xc_3a03a3c4 rfl rfl xv_e1bbb977 rfl) (cm_C_mono (by omega) hCc1_) ?_
    refine wk_istore_n xd_f8f9e95b (by rw [xm_34ed8b1f]; rfl) rfl ?_
    refine wk_iload_n xd_1c826d86 rfl ?_
    refine wk_if xd_467e6882 (t := 17) rfl (fun h7_1 => ?_) (fun h7_1 => ?_)
    · have h7_1 := aw_ne_t (a := ((xc1_).toInt : Int)) (b := (0 : Int)) rfl hb_z h7_1
      refine wk_bipush xd_ff6a5ebf ?_
      refine wk_iload_n xd_f90abda1 rfl ?_
      refine aw_iadd (a := (30 : Int)) (b := ((xc1_).toInt : Int)) (e := ((xc1_).toInt + 30 : Int)) xd_10fee43c (show (((Int8.ofInt 30).toInt32)).toInt = 30 from by decide) rfl (by omega) (by omega) (by omega) (fun v3_ p3_ => ?_)
      exact wk_ireturn xd_4c90c496 xr_c928d11b rfl ⟨_, _, rfl, hG, jLf_rf, hc⟩
    · have h7_1 := aw_ne_f (a := ((xc1_).toInt : Int)) (b := (0 : Int)) rfl hb_z h7_1
      refine wk_aload_n xd_4203945e rfl ?_
      refine wk_iload_n xd_be138457 rfl ?_
      obtain ⟨wc4_, hCc4_, hGc4_, hFc4_, hxc4_⟩ := xs_203_afa9fe39 (w := w) (a1 := m) (by have e9 : (m).toInt = ((m).toInt : Int) := rfl; exact ⟨by omega, by omega⟩) hG
      refine wk_call (kd := 0) (i := 132) xd_121fd84b rfl (wk_cal (as := [.inr (.inr (some 40)), .inl m]) (t := []) xl_2112d45e rfl xn_af36819c xc_85a61215 rfl rfl xv_a6c333ae rfl) (cm_C_mono (by omega) hCc4_) ?_
      have hf5_ : jLf w wc4_ := fun k i x1 => ((hFc4_ k i (by omega)).1).trans (jLf_rf k i x1)
      have hc6_ : jCl wc4_ := jCl_fr (fun k i hs => by unfold jSup at hs; exact (hFc4_ k i (by omega)).1) hc
      refine wk_iconst xd_02b4fbc0 ?_
      exact wk_ireturn xd_1c0fef8e xr_c928d11b rfl ⟨_, _, rfl, hGc4_, hf5_, hc6_⟩
  obtain ⟨o, hC, x, w', rfl, a⟩ := h
  exact ⟨x, w', hC, a⟩
theorem jlh_40 {w : cm_W} {n : Int32} (hn : 1 ≤ n.toInt ∧ n.toInt ≤ 60) (hc : jCl w) (hG : sv_w sg w) : ∃ x w', cm_C 5 166 [.inr (.inr (some 40)), .inl n] w (some (.inl x), w') ∧ sv_w sg w' ∧ jLf w w' ∧ jCl w' := by
  have h : ∃ o, cm_C (4 + 1) 166 [.inr (.inr (some 40)), .inl n] w o ∧ (fun o : cm_O => ∃ x w', o = (some (.inl x), w') ∧ sv_w sg w' ∧ jLf w w' ∧ jCl w') o := by
    refine wk_entry (by rw [xm_fcda05e8]; exact Nat.le_of_ble_eq_true rfl) ?_
    rw [show cm_ent 166 [.inr (.inr (some 40)), .inl n] = [some (.inr (.inr (some 40))), some (.inl n)] from by unfold cm_ent; rw [xm_fcda05e8]; rfl]
    refine wk_aload_n xd_bb7c6ffc rfl ?_
    refine wk_getI xf_7f2fc0fc xd_a9bac247 ?_
    refine wk_iload_n xd_dc4334b2 rfl ?_
    refine wk_iadd xd_3312bf6c ?_
    refine wk_sipush xd_9b59d1f9 ?_
    refine wk_icmp xd_5c121bf7 (t := 15) rfl (fun h9_0 => ?_) (fun h9_0 => ?_)
    · have h9_0 := aw_le_t (a := (((w.1 40 1) + n).toInt : Int)) (b := (600 : Int)) rfl (show (((Int16.ofInt 600).toInt32)).toInt = 600 from by decide) h9_0
      refine wk_aload_n xd_a7f75454 rfl ?_
      refine wk_iload_n xd_b67197b4 rfl ?_
      obtain ⟨xc2_, wc2_, hCc2_, hGc2_, hFc2_, hxc2_⟩ := xs_79_04b53a84 (w := w) (a1 := n) hG
      refine wk_call (kd := 0) (i := 135) xd_93d594b8 rfl (wk_cal (as := [.inr (.inr (some 40)), .inl n]) (t := []) xl_e55093ac rfl xn_34aa8679 xc_c424f1c9 rfl rfl xv_0e944fdb rfl) (cm_C_mono (by omega) hCc2_) ?_
      have hf3_ : jLf w wc2_ := fun k i x1 => ((hFc2_ k i (by omega)).1).trans (jLf_rf k i x1)
      have hc4_ : jCl wc2_ := jCl_fr (fun k i hs => by unfold jSup at hs; exact (hFc2_ k i (by omega)).1) hc
      refine wk_pop xd_b218a1fa ?_
      refine wk_iconst xd_4207a1f0 ?_
      exact wk_ireturn xd_705eb964 xr_33ceddab rfl ⟨_, _, rfl, hGc2_, hf3_, hc4_⟩
    · have h9_0 := aw_le_f (a := (((w.1 40 1) + n).toInt : Int)) (b := (600 : Int)) rfl (show (((Int16.ofInt 600).toInt32)).toInt = 600 from by decide) h9_0
      refine wk_bipush xd_3afb87bd ?_
      exact wk_ireturn xd_bf1b11e2 xr_33ceddab rfl ⟨_, _, rfl, hG, jLf_rf, hc⟩
  obtain ⟨o, hC, x, w', rfl, a⟩ := h
  exact ⟨x, w', hC, a⟩
theorem jll_40 {w : cm_W} {q : Int32} {i : Nat} (hq : q.toInt = (i : Int)) (hi : i < 40) (hr : jBw w i) (hc : jCl w) (hG : sv_w sg w) : ∃ x w', cm_C 6 167 [.inr (.inr (some 116)), .inr (.inr (some 40)), .inl q] w (some (.inl x), w') ∧ sv_w sg w' ∧ jLf w w' ∧ jCl w' := by
  have gw := hG 118 i
  rw [xh_9d6ca2bf i hi] at gw
  have gw := hb_in gw
  unfold jBw at hr
  have h : ∃ o, cm_C (5 + 1) 167 [.inr (.inr (some 116)), .inr (.inr (some 40)), .inl q] w o ∧ (fun o : cm_O => ∃ x w', o = (some (.inl x), w') ∧ sv_w sg w' ∧ jLf w w' ∧ jCl w') o := by
    refine wk_entry (by rw [xm_b6bd1cce]; exact Nat.le_of_ble_eq_true rfl) ?_
    rw [show cm_ent 167 [.inr (.inr (some 116)), .inr (.inr (some 40)), .inl q] = [some (.inr (.inr (some 116))), some (.inr (.inr (some 40))), some (.inl q)] from by unfold cm_ent; rw [xm_b6bd1cce]; rfl]
    refine wk_aload_n xd_5c61c96b rfl ?_
    refine wk_getR xf_e808c97d xd_82100ce3 ?_
    refine wk_iload_n xd_7cfee8f5 rfl ?_
    refine aw_iaload (i := i) xf_cc076ad5 hq (by omega) (by omega) xd_ae26c2e8 ?_
    have hkw : (w.1 117 i).toInt < 6 ∨ 9 < (w.1 117 i).toInt ∨ (w.1 117 i).toInt = 6 ∨ (w.1 117 i).toInt = 7 ∨ (w.1 117 i).toInt = 8 ∨ (w.1 117 i).toInt = 9 := by omega
    rcases hkw with hkw | hkw | hkw | hkw | hkw | hkw
    · refine aw_tsd xd_00a66000 rfl (.inl hkw) (t := 110) rfl ?_
      refine wk_aload_n xd_303f9027 rfl ?_
      refine wk_aload_n xd_962c5343 rfl ?_
      refine wk_getR xf_4fba20d1 xd_52e15672 ?_
      refine wk_iload_n xd_b6b372dd rfl ?_
      refine aw_iaload (i := i) xf_079c3f55 hq (by omega) (by omega) xd_2415ee05 ?_
      obtain ⟨xE, wE, hCE, hGE, hFE, hcE⟩ := jlh_40 (w := w) (n := (w.1 119 i)) (by omega) hc hG
      refine wk_call (kd := 1) (i := 115) xd_bc7ba812 rfl (wk_cal (as := [.inr (.inr (some 40)), .inl (w.1 119 i)]) (t := []) xl_fc5dc36c rfl xn_8067f76c xc_b408cba1 rfl rfl rfl rfl) (cm_C_mono (by omega) hCE) ?_
      have hf1_ : jLf w wE := fun k i x1 => (hFE k i x1).trans (jLf_rf k i x1)
      exact wk_ireturn xd_df54231f xr_ee58042e rfl ⟨_, _, rfl, hGE, hf1_, hcE⟩
    · refine aw_tsd xd_00a66000 rfl (.inr hkw) (t := 110) rfl ?_
      refine wk_aload_n xd_303f9027 rfl ?_
      refine wk_aload_n xd_962c5343 rfl ?_
      refine wk_getR xf_4fba20d1 xd_52e15672 ?_
      refine wk_iload_n xd_b6b372dd rfl ?_
      refine aw_iaload (i := i) xf_079c3f55 hq (by omega) (by omega) xd_2415ee05 ?_
      obtain ⟨xE, wE, hCE, hGE, hFE, hcE⟩ := jlh_40 (w := w) (n := (w.1 119 i)) (by omega) hc hG
      refine wk_call (kd := 1) (i := 115) xd_bc7ba812 rfl (wk_cal (as := [.inr (.inr (some 40)), .inl (w.1 119 i)]) (t := []) xl_fc5dc36c rfl xn_8067f76c xc_b408cba1 rfl rfl rfl rfl) (cm_C_mono (by omega) hCE) ?_
      have hf2_ : jLf w wE := fun k i x1 => (hFE k i x1).trans (jLf_rf k i x1)
      exact wk_ireturn xd_df54231f xr_ee58042e rfl ⟨_, _, rfl, hGE, hf2_, hcE⟩
    · refine aw_tsw xd_00a66000 hkw (by omega) (by omega) (t := 36) rfl rfl ?_
      refine wk_aload_n xd_5bc59397 rfl ?_
      refine wk_aload_n xd_fdd650f3 rfl ?_
      refine wk_getR xf_47508873 xd_000bdf77 ?_
      refine wk_iload_n xd_01c795f3 rfl ?_
      refine aw_iaload (i := i) xf_9a93de23 hq (by omega) (by omega) xd_acb1a67b ?_
      refine wk_aload_n xd_cc92c617 rfl ?_
      refine wk_getR xf_4fba20d1 xd_f7eeb9ac ?_
      refine wk_iload_n xd_ec0de789 rfl ?_
      refine aw_iaload (i := i) xf_079c3f55 hq (by omega) (by omega) xd_fba40645 ?_
      obtain ⟨xE, wE, hCE, hGE, hFE, hcE⟩ := jle_40 (w := w) (p := (w.1 118 i)) (f := (w.1 119 i)) (by omega) (by omega) hc hG
      refine wk_call (kd := 1) (i := 97) xd_221981d7 rfl (wk_cal (as := [.inr (.inr (some 40)), .inl (w.1 118 i), .inl (w.1 119 i)]) (t := []) xl_267450a7 rfl xn_b0c0bd2a xc_854d884c rfl rfl rfl rfl) (cm_C_mono (by omega) hCE) ?_
      have hf3_ : jLf w wE := fun k i x1 => (hFE k i x1).trans (jLf_rf k i x1)
      exact wk_ireturn xd_b00c172a xr_ee58042e rfl ⟨_, _, rfl, hGE, hf3_, hcE⟩
    · refine aw_tsw xd_00a66000 hkw (by omega) (by omega) (t := 53) rfl rfl ?_
      refine wk_aload_n xd_70d78a80 rfl ?_
      refine wk_aload_n xd_3b0e3b9e rfl ?_
      refine wk_getR xf_47508873 xd_4de84b84 ?_
      refine wk_iload_n xd_1b285926 rfl ?_
      refine aw_iaload (i := i) xf_9a93de23 hq (by omega) (by omega) xd_0119be9d ?_
      refine wk_bipush xd_e554c061 ?_
      refine wk_aload_n xd_b3bac97c rfl ?_
      refine wk_aload_n xd_15a90a18 rfl ?_
      refine wk_getR xf_47508873 xd_1a343672 ?_
      refine wk_iload_n xd_35362b86 rfl ?_
      refine aw_iaload (i := i) xf_9a93de23 hq (by omega) (by omega) xd_1f600738 ?_
      obtain ⟨xc4_, hCc4_, hxc4_⟩ := xs_215_afa9fe39 (w := w) (a1 := (w.1 118 i)) (by have e9 : ((w.1 118 i)).toInt = ((w.1 118 i).toInt : Int) := rfl; exact ⟨by omega, by omega⟩) hG
      refine wk_call (kd := 0) (i := 101) xd_c6a571e5 rfl (wk_cal (as := [.inr (.inr (some 40)), .inl (w.1 118 i)]) (t := [.inl ((Int8.ofInt 10).toInt32), .inl (w.1 118 i), .inr (.inr (some 40))]) xl_83288c5e rfl xn_eb2aa799 xc_ad55234d rfl rfl xv_d97eb462 rfl) (cm_C_mono (by omega) hCc4_) ?_
      obtain ⟨xE, wE, hCE, hGE, hFE, hcE⟩ := jlt_40 (w := w) (p := (w.1 118 i)) (m := ((Int8.ofInt 10).toInt32)) (n := xc4_) (by omega) hc hG
      refine wk_call (kd := 1) (i := 105) xd_405bf81b rfl (wk_cal (as := [.inr (.inr (some 40)), .inl (w.1 118 i), .inl ((Int8.ofInt 10).toInt32), .inl xc4_]) (t := []) xl_94ef2acb rfl xn_eb54c588 xc_405887f8 rfl rfl rfl rfl) (cm_C_mono (by omega) hCE) ?_
      have hf5_ : jLf w wE := fun k i x1 => (hFE k i x1).trans (jLf_rf k i x1)
      exact wk_ireturn xd_f7bb58f2 xr_ee58042e rfl ⟨_, _, rfl, hGE, hf5_, hcE⟩
    · refine aw_tsw xd_00a66000 hkw (by omega) (by omega) (t := 76) rfl rfl ?_
      refine wk_aload_n xd_32c30dc8 rfl ?_
      refine wk_aload_n xd_94d0ceac rfl ?_
      refine wk_getR xf_47508873 xd_2a9f49a9 ?_
      refine wk_iload_n xd_bacc3712 rfl ?_
      refine aw_iaload (i := i) xf_9a93de23 hq (by omega) (by omega) xd_9bbaabb6 ?_
      refine wk_bipush xd_7715e51c ?_
      refine wk_aload_n xd_a7333f3c rfl ?_
      refine wk_aload_n xd_ecb62fb1 rfl ?_
      refine wk_getR xf_47508873 xd_452e702c ?_
      refine wk_iload_n xd_a09ab8e1 rfl ?_
      refine aw_iaload (i := i) xf_9a93de23 hq (by omega) (by omega) xd_abc965e2 ?_
      obtain ⟨xc6_, hCc6_, hxc6_⟩ := xs_218_afa9fe39 (w := w) (a1 := (w.1 118 i)) (by have e9 : ((w.1 118 i)).toInt = ((w.1 118 i).toInt : Int) := rfl; exact ⟨by omega, by omega⟩) hG
      refine wk_call (kd := 0) (i := 109) xd_c943631e rfl (wk_cal (as := [.inr (.inr (some 40)), .inl (w.1 118 i)]) (t := [.inl ((Int8.ofInt 20).toInt32), .inl (w.1 118 i), .inr (.inr (some 40))]) xl_7bbc5e35 rfl xn_13ba6328 xc_ce53ef9d rfl rfl xv_ba3a9fb6 rfl) (cm_C_mono (by omega) hCc6_) ?_
      obtain ⟨xE, wE, hCE, hGE, hFE, hcE⟩ := jlt_40 (w := w) (p := (w.1 118 i)) (m := ((Int8.ofInt 20).toInt32)) (n := xc6_) (by omega) hc hG
      refine wk_call (kd := 1) (i := 105) xd_a416654d rfl (wk_cal (as := [.inr (.inr (some 40)), .inl (w.1 118 i), .inl ((Int8.ofInt 20).toInt32), .inl xc6_]) (t := []) xl_94ef2acb rfl xn_eb54c588 xc_405887f8 rfl rfl rfl rfl) (cm_C_mono (by omega) hCE) ?_
      have hf7_ : jLf w wE := fun k i x1 => (hFE k i x1).trans (jLf_rf k i x1)
      exact wk_ireturn xd_94d8aa21 xr_ee58042e rfl ⟨_, _, rfl, hGE, hf7_, hcE⟩
    · refine aw_tsw xd_00a66000 hkw (by omega) (by omega) (t := 99) rfl rfl ?_
      refine wk_aload_n xd_26f3b8ae rfl ?_
      refine wk_aload_n xd_8c7adcb0 rfl ?_
      refine wk_getR xf_4fba20d1 xd_801146b6 ?_
      refine wk_iload_n xd_ace5fd2e rfl ?_
      refine aw_iaload (i := i) xf_079c3f55 hq (by omega) (by omega) xd_14662051 ?_
      obtain ⟨xE, wE, hCE, hGE, hFE, hcE⟩ := jlm_40 (w := w) (m := (w.1 119 i)) (by omega) hc hG
      refine wk_call (kd := 1) (i := 112) xd_3cdc7fdb rfl (wk_cal (as := [.inr (.inr (some 40)), .inl (w.1 119 i)]) (t := []) xl_700ee11c rfl xn_3f57490d xc_e64b449c rfl rfl rfl rfl) (cm_C_mono (by omega) hCE) ?_
      have hf8_ : jLf w wE := fun k i x1 => (hFE k i x1).trans (jLf_rf k i x1)
      exact wk_ireturn xd_4b2c6077 xr_ee58042e rfl ⟨_, _, rfl, hGE, hf8_, hcE⟩
  obtain ⟨o, hC, x, w', rfl, a⟩ := h
  exact ⟨x, w', hC, a⟩
theorem jlv_l40 (w1 : cm_W) (N : Nat) (hN : N ≤ 40) (Q : cm_O → Prop) (hk : ∀ w x2 z, jLf w1 w → jCl w → sv_w sg w → cm_X (cm_C 6) 49 33 [some (.inr (.inr (some 116))), some (.inr (.inr (some 40))), some (.inl x2), some (.inl z)] [] w Q) : ∀ (n i : Nat) (x2 z : Int32) (w : cm_W), n + i = N → z.toInt = (i : Int) → (w.1 116 2).toInt = ((N : Int) : Int) → (∀ j, j < N → jBw w j) → jLf w1 w → jCl w → sv_w sg w → cm_X (cm_C 6) 49 4 [some (.inr (.inr (some 116))), some (.inr (.inr (some 40))), some (.inl x2), some (.inl z)] [] w Q := by
  intro n
  induction n with
  | zero =>
    intro i x2 z w hi hz hn hrows hF hc hG
    refine wk_iload_n xd_fb1201ad rfl ?_
    refine wk_aload_n xd_7dc242c4 rfl ?_
    refine wk_getI xf_ce7c410c xd_56ee1af0 ?_
    refine wk_icmp xd_88f17498 (t := 33) rfl (fun h9_0 => ?_) (fun h9_0 => ?_)
    · have h9_0 := aw_ge_t (a := ((i : Int) : Int)) (b := ((N : Int) : Int)) hz (show ((w.1 116 2)).toInt = ((N : Int) : Int) from hn) h9_0
      exact hk w x2 z hF hc hG
    · have h9_0 := aw_ge_f (a := ((i : Int) : Int)) (b := ((N : Int) : Int)) hz (show ((w.1 116 2)).toInt = ((N : Int) : Int) from hn) h9_0
      exfalso
      omega
  | succ n ih =>
    intro i x2 z w hi hz hn hrows hF hc hG
    refine wk_iload_n xd_fb1201ad rfl ?_
    refine wk_aload_n xd_7dc242c4 rfl ?_
    refine wk_getI xf_ce7c410c xd_56ee1af0 ?_
    refine wk_icmp xd_88f17498 (t := 33) rfl (fun h9_1 => ?_) (fun h9_1 => ?_)
    · have h9_1 := aw_ge_t (a := ((i : Int) : Int)) (b := ((N : Int) : Int)) hz (show ((w.1 116 2)).toInt = ((N : Int) : Int) from hn) h9_1
      exfalso
      omega
    · have h9_1 := aw_ge_f (a := ((i : Int) : Int)) (b := ((N : Int) : Int)) hz (show ((w.1 116 2)).toInt = ((N : Int) : Int) from hn) h9_1
      refine wk_iload_n xd_316ab13c rfl ?_
      refine wk_if xd_e5ce5d17 (t := 33) rfl (fun h13_2 => ?_) (fun h13_2 => ?_)
      · have h13_2 := aw_ne_t (a := ((x2).toInt : Int)) (b := (0 : Int)) rfl hb_z h13_2
        exact hk w x2 z hF hc hG
      · have h13_2 := aw_ne_f (a := ((x2).toInt : Int)) (b := (0 : Int)) rfl hb_z h13_2
        refine wk_aload_n xd_11f590a2 rfl ?_
        refine wk_aload_n xd_b7e653c6 rfl ?_
        refine wk_iload_n xd_e1250843 rfl ?_
        obtain ⟨xL, wL, hCL, hGL, hFL, hcL⟩ := jll_40 (w := w) (q := z) (i := i) hz (by omega) (hrows i (by omega)) hc hG
        refine wk_call (kd := 0) (i := 84) xd_c433e18d rfl (wk_cal (as := [.inr (.inr (some 116)), .inr (.inr (some 40)), .inl z]) (t := []) xl_2e9ae9cc rfl xn_ca00ee4a xc_121b08c5 rfl rfl xv_6aacab46 rfl) (cm_C_mono (by omega) hCL) ?_
        have hf4_ : jLf w1 wL := fun k i x1 => (hFL k i x1).trans (hF k i x1)
        refine wk_istore_n xd_be93446e (by rw [xm_3a40622c]; rfl) rfl ?_
        refine wk_iload_n xd_f207f2c0 rfl ?_
        refine wk_if xd_4a96fd57 (t := 4) rfl (fun h24_4 => ?_) (fun h24_4 => ?_)
        · have h24_4 := aw_ne_t (a := ((xL).toInt : Int)) (b := (0 : Int)) rfl hb_z h24_4
          have hnL : (wL.1 116 2).toInt = ((N : Int) : Int) := by rw [hFL 116 2 (by omega)]; exact hn
          refine wk_iload_n xd_fb1201ad rfl ?_
          refine wk_aload_n xd_7dc242c4 rfl ?_
          refine wk_getI xf_ce7c410c xd_56ee1af0 ?_
          refine wk_icmp xd_88f17498 (t := 33) rfl (fun h9_205 => ?_) (fun h9_205 => ?_)
          · have h9_205 := aw_ge_t (a := ((i : Int) : Int)) (b := ((N : Int) : Int)) hz (show ((wL.1 116 2)).toInt = ((N : Int) : Int) from hnL) h9_205
            exfalso
            omega
          · have h9_205 := aw_ge_f (a := ((i : Int) : Int)) (b := ((N : Int) : Int)) hz (show ((wL.1 116 2)).toInt = ((N : Int) : Int) from hnL) h9_205
            refine wk_iload_n xd_316ab13c rfl ?_
            refine wk_if xd_e5ce5d17 (t := 33) rfl (fun h13_206 => ?_) (fun h13_206 => ?_)
            · have h13_206 := aw_ne_t (a := ((xL).toInt : Int)) (b := (0 : Int)) rfl hb_z h13_206
              exact hk wL xL z hf4_ hcL hGL
            · have h13_206 := aw_ne_f (a := ((xL).toInt : Int)) (b := (0 : Int)) rfl hb_z h13_206
              exfalso
              omega
        · have h24_4 := aw_ne_f (a := ((xL).toInt : Int)) (b := (0 : Int)) rfl hb_z h24_4
          refine aw_iinc (a := ((i : Int) : Int)) (b := (1 : Int)) (e := ((i : Int) + 1 : Int)) xd_c416bd02 (by rw [xm_3a40622c]; rfl) rfl rfl hz (show ((Int32.ofInt 1)).toInt = 1 from by decide) (by omega) (by omega) (by omega) (fun v6_ p6_ => ?_)
          refine wk_goto xd_4fb0d052 (t := 4) rfl ?_
          exact ih (i + 1) _ _ wL (by omega) (by rw [p6_]; omega) (by rw [hFL 116 2 (by omega)]; exact hn) (fun j hj => jBw_eq (hFL 117 j (by omega)) (hFL 119 j (by omega)) (hrows j hj)) hf4_ hcL hGL
theorem jlv_40 {w : cm_W} {N : Nat} (hN : N ≤ 40) (hn : (w.1 116 2).toInt = ((N : Int) : Int)) (hrows : ∀ j, j < N → jBw w j) (hc : jCl w) (hG : sv_w sg w) : ∃ x w', cm_C 7 49 [.inr (.inr (some 116)), .inr (.inr (some 40))] w (some (.inl x), w') ∧ sv_w sg w' ∧ (∀ k i, ¬ (33 ≤ k ∧ k ≤ 46) → k ≠ 116 → w'.1 k i = w.1 k i) ∧ jCl w' := by
  have h : ∃ o, cm_C (6 + 1) 49 [.inr (.inr (some 116)), .inr (.inr (some 40))] w o ∧ (fun o : cm_O => ∃ x w', o = (some (.inl x), w') ∧ sv_w sg w' ∧ (∀ k i, ¬ (33 ≤ k ∧ k ≤ 46) → k ≠ 116 → w'.1 k i = w.1 k i) ∧ jCl w') o := by
    refine wk_entry (by rw [xm_3a40622c]; exact Nat.le_of_ble_eq_true rfl) ?_
    rw [show cm_ent 49 [.inr (.inr (some 116)), .inr (.inr (some 40))] = [some (.inr (.inr (some 116))), some (.inr (.inr (some 40))), none, none] from by unfold cm_ent; rw [xm_3a40622c]; rfl]
    refine wk_iconst xd_7664bc66 ?_
    refine wk_istore_n xd_2fc30182 (by rw [xm_3a40622c]; rfl) rfl ?_
    refine wk_iconst xd_583475e6 ?_
    refine wk_istore_n xd_cb98e43d (by rw [xm_3a40622c]; rfl) rfl ?_
    refine jlv_l40 w N hN _ (fun w2 x2 z hF2 hc2 hG2 => ?_) N 0 _ _ w (by omega) (by decide) hn hrows jLf_rf hc hG
    refine wk_aload_n xd_53e117ea rfl ?_
    refine wk_iload_n xd_059b0f49 rfl ?_
    refine wk_putI xf_3ea0fc6e (fun ci => wk_fitI ci) xd_30f67785 ?_
    have hG1_ : sv_w sg (cm_u1 w2 116 6 x2) := sv_w_u1 hG2 (by rw [xg_2484a5b3]; exact sv_in_top _)
    refine wk_aload_n xd_25bd6df1 rfl ?_
    refine wk_iload_n xd_a36d2e98 rfl ?_
    refine wk_putI xf_0553dbd7 (fun ci => wk_fitI ci) xd_43837096 ?_
    have hG2_ : sv_w sg (cm_u1 (cm_u1 w2 116 6 x2) 116 7 z) := sv_w_u1 hG1_ (by rw [xg_cb46ce8d]; exact sv_in_top _)
    refine wk_aload_n xd_62f9209d rfl ?_
    refine wk_aload_n xd_29209183 rfl ?_
    refine wk_getI xf_7638b148 xd_fd6fe18d ?_
    refine wk_putI xf_fd12c203 (fun ci => wk_fitI ci) xd_97182790 ?_
    have hG3_ : sv_w sg (cm_u1 (cm_u1 (cm_u1 w2 116 6 x2) 116 7 z) 116 8 ((cm_u1 (cm_u1 w2 116 6 x2) 116 7 z).1 40 1)) := sv_w_u1 hG2_ (by rw [xg_3a4d9500]; exact sv_in_top _)
    refine wk_aload_n xd_0e4a9653 rfl ?_
    refine wk_aload_n xd_45cf86de rfl ?_
    obtain ⟨xc4_, hCc4_, hxc4_⟩ := xs_75_a0678127 (w := (cm_u1 (cm_u1 (cm_u1 w2 116 6 x2) 116 7 z) 116 8 ((cm_u1 (cm_u1 w2 116 6 x2) 116 7 z).1 40 1))) hG3_
    refine wk_call (kd := 0) (i := 93) xd_c667956d rfl (wk_cal (as := [.inr (.inr (some 40))]) (t := [.inr (.inr (some 116))]) xl_8b80b613 rfl xn_68533ac2 xc_e436a9c8 rfl rfl xv_9c0a61a5 rfl) (cm_C_mono (by omega) hCc4_) ?_
    refine wk_putI xf_480d6ca0 (fun ci => wk_fitI ci) xd_f199cfc2 ?_
    have hG5_ : sv_w sg (cm_u1 (cm_u1 (cm_u1 (cm_u1 w2 116 6 x2) 116 7 z) 116 8 ((cm_u1 (cm_u1 w2 116 6 x2) 116 7 z).1 40 1)) 116 9 xc4_) := sv_w_u1 hG3_ (by rw [xg_d58ffe3e]; exact sv_in_top _)
    refine wk_iload_n xd_2e305578 rfl ?_
    refine wk_if xd_73b3e767 (t := 67) rfl (fun h60_5 => ?_) (fun h60_5 => ?_)
    · have h60_5 := aw_ne_t (a := ((x2).toInt : Int)) (b := (0 : Int)) rfl hb_z h60_5
      refine wk_iload_n xd_a63de4bc rfl ?_
      exact wk_ireturn xd_14b45f95 xr_9953d08e rfl ⟨_, _, rfl, hG5_, fun k i k1 k2 => by rw [hs_u1_ne (by omega), hs_u1_ne (by omega), hs_u1_ne (by omega), hs_u1_ne (by omega), hF2 k i k1], jCl_fr (fun k i hs => by unfold jSup at hs; rw [hs_u1_ne (by omega), hs_u1_ne (by omega), hs_u1_ne (by omega), hs_u1_ne (by omega)]) hc2⟩
    · have h60_5 := aw_ne_f (a := ((x2).toInt : Int)) (b := (0 : Int)) rfl hb_z h60_5
      refine wk_iconst xd_28424790 ?_
      refine wk_goto xd_3ea57f57 (t := 68) rfl ?_
      exact wk_ireturn xd_14b45f95 xr_9953d08e rfl ⟨_, _, rfl, hG5_, fun k i k1 k2 => by rw [hs_u1_ne (by omega), hs_u1_ne (by omega), hs_u1_ne (by omega), hs_u1_ne (by omega), hF2 k i k1], jCl_fr (fun k i hs => by unfold jSup at hs; rw [hs_u1_ne (by omega), hs_u1_ne (by omega), hs_u1_ne (by omega), hs_u1_ne (by omega)]) hc2⟩
  obtain ⟨o, hC, x, w', rfl, a⟩ := h
  exact ⟨x, w', hC, a⟩
/-- book of the class ends -/
theorem jc_book {w : cm_W} {k : Int32} (hc : jCl w) (hG : sv_w sg w) : ∃ x w', cm_C 9 4 [.inr (.inr (some 0)), .inl k] w (some (.inl x), w') ∧ sv_w sg w' ∧ jCl w' ∧ (∀ c i, c ≠ 0 → c ≠ 2 → ¬ (33 ≤ c ∧ c ≤ 104) → ¬ (116 ≤ c ∧ c ≤ 119) → w'.1 c i = w.1 c i) ∧ (((k.toInt = 0 ∨ k.toInt = 1) ∧ (w'.1 0 1).toInt = 0) ∨ (¬ (k.toInt = 0 ∨ k.toInt = 1) ∧ w'.1 0 1 = w.1 0 1)) := by
  have h : ∃ o, cm_C (8 + 1) 4 [.inr (.inr (some 0)), .inl k] w o ∧ (fun o : cm_O => ∃ x w', o = (some (.inl x), w') ∧ sv_w sg w' ∧ jCl w' ∧ (∀ c i, c ≠ 0 → c ≠ 2 → ¬ (33 ≤ c ∧ c ≤ 104) → ¬ (116 ≤ c ∧ c ≤ 119) → w'.1 c i = w.1 c i) ∧ (((k.toInt = 0 ∨ k.toInt = 1) ∧ (w'.1 0 1).toInt = 0) ∨ (¬ (k.toInt = 0 ∨ k.toInt = 1) ∧ w'.1 0 1 = w.1 0 1))) o := by
    refine wk_entry (by rw [xm_b8649787]; exact Nat.le_of_ble_eq_true rfl) ?_
    rw [show cm_ent 4 [.inr (.inr (some 0)), .inl k] = [some (.inr (.inr (some 0))), some (.inl k), none] from by unfold cm_ent; rw [xm_b8649787]; rfl]
    refine wk_iload_n xd_188fc725 rfl ?_
    refine wk_if xd_46657222 (t := 13) rfl (fun h1_0 => ?_) (fun h1_0 => ?_)
    · have h1_0 := aw_eq_t (a := ((k).toInt : Int)) (b := (0 : Int)) rfl hb_z h1_0
      refine wk_aload_n xd_4d947265 rfl ?_
      refine wk_sipush xd_04c6660a ?_
      obtain ⟨wA, hCA, hGA, hFA, hA0⟩ := jot_400 (w := w) (show ((Int16.ofInt 400).toInt32).toInt = 400 from by decide) hG
      refine wk_call (kd := 0) (i := 117) xd_8b83e9fa rfl (wk_cal (as := [.inr (.inr (some 0)), .inl ((Int16.ofInt 400).toInt32)]) (t := []) xl_30e90cce rfl xn_e58bdcce xc_824ae56d rfl rfl xv_a03cc3f8 rfl) (cm_C_mono (by omega) hCA) ?_
      refine wk_aload_n xd_636fe270 rfl ?_
      refine wk_getR xf_af66a6ef xd_61b3a9eb ?_
      obtain ⟨xB, wB, hCB, hGB, hFB, hB0, hB1, hB2⟩ := jrb_ok (w := wA) hGA
      refine wk_call (kd := 0) (i := 356) xd_60daa2b9 rfl (wk_cal (as := [.inr (.inr (some 116))]) (t := []) xl_720528f1 rfl xn_ed7b14b9 xc_c701a39a rfl rfl xv_d26c51ae rfl) (cm_C_mono (by omega) hCB) ?_
      refine wk_istore_n xd_bbcf729f (by rw [xm_b8649787]; rfl) rfl ?_
      refine wk_aload_n xd_63d6a156 rfl ?_
      refine wk_aload_n xd_f8a54b82 rfl ?_
      refine wk_getR xf_b0c83767 xd_c81c55df ?_
      refine wk_getI xf_42ac9d61 xd_61d3ee66 ?_
      refine wk_putI xf_323159e2 (fun ci => wk_fitI ci) xd_b446fd5b ?_
      have hG2_ : sv_w sg (cm_u1 wB 0 3 (wB.1 2 11)) := sv_w_u1 hGB (by rw [xg_2addefec]; exact sv_in_top _)
      refine wk_iload_n xd_5943aea8 rfl ?_
      refine wk_if xd_7226489f (t := 54) rfl (fun h40_2 => ?_) (fun h40_2 => ?_)
      · have h40_2 := aw_ne_t (a := ((xB).toInt : Int)) (b := (0 : Int)) rfl hb_z h40_2
        refine wk_iload_n xd_35488e49 rfl ?_
        refine wk_iconst xd_91efd1ea ?_
        refine wk_icmp xd_0ffdccf1 (t := 82) rfl (fun h56_3 => ?_) (fun h56_3 => ?_)
        · have h56_3 := aw_ne_t (a := ((k).toInt : Int)) (b := (1 : Int)) rfl (show ((Int32.ofInt 1)).toInt = 1 from by decide) h56_3
          refine wk_aload_n xd_85cfc128 rfl ?_
          refine wk_getR xf_9db9faf8 xd_f16e2a1f ?_
          refine wk_aload_n xd_859360bb rfl ?_
          refine wk_getR xf_62296e25 xd_4ecf46e1 ?_
          obtain ⟨wD, hCD, hGD, hFD, hxD⟩ := xs_72_c5eb5496 (w := (cm_u1 wB 0 3 (wB.1 2 11))) hG2_
          refine wk_call (kd := 0) (i := 333) xd_6ff7517b rfl (wk_cal (as := [.inr (.inr (some 40)), .inr (.inr (some 33))]) (t := []) xl_38c3371c rfl xn_437ab768 xc_33cf4b98 rfl rfl xv_249f7330 rfl) (cm_C_mono (by omega) hCD) ?_
          have hcD : jCl wD := jCl_fr (w := (cm_u1 wB 0 3 (wB.1 2 11))) (fun k i hs => by unfold jSup at hs; exact (hFD k i (by omega)).1) (jCl_fr (fun k i hs => by unfold jSup at hs; rw [hs_u1_ne (by omega), hFB k i (by omega) (by omega), hFA k i (by omega) (by omega)]) hc)
          refine wk_aload_n xd_9f994edb rfl ?_
          refine wk_getR xf_af66a6ef xd_98fbb35a ?_
          refine wk_aload_n xd_9fc5ef48 rfl ?_
          refine wk_getR xf_9db9faf8 xd_0f95a96c ?_
          obtain ⟨N, hN, hn, hrows⟩ := hB2 (by omega)
          obtain ⟨xL, wL, hCL, hGL, hFL, hcL⟩ := jlv_40 (w := wD) hN (by rw [(hFD 116 2 (by omega)).1, hs_u1_ne (by omega)]; exact hn) (fun j hj => jBw_eq (by rw [(hFD 117 j (by omega)).1, hs_u1_ne (by omega)]) (by rw [(hFD 119 j (by omega)).1, hs_u1_ne (by omega)]) (hrows j hj)) hcD hGD
          refine wk_call (kd := 0) (i := 358) xd_461a1f25 rfl (wk_cal (as := [.inr (.inr (some 116)), .inr (.inr (some 40))]) (t := []) xl_421bc58e rfl xn_b23ef4d7 xc_3455ba5a rfl rfl xv_acf911b2 rfl) (cm_C_mono (by omega) hCL) ?_
          exact wk_ireturn xd_c0701ab7 xr_df558ec9 rfl ⟨_, _, rfl, hGL, hcL, fun c i c1 c2 c3 c4 => by rw [hFL c i (by omega) (by omega), (hFD c i (by omega)).1, hs_u1_ne (by omega), hFB c i (by omega) (by omega), hFA c i (by omega) (by omega)], .inl ⟨by omega, by rw [hFL 0 1 (by omega) (by omega), (hFD 0 1 (by omega)).1, hs_u1_ne (by omega), hFB 0 1 (by omega) (by omega)]; exact hA0⟩⟩
        · have h56_3 := aw_ne_f (a := ((k).toInt : Int)) (b := (1 : Int)) rfl (show ((Int32.ofInt 1)).toInt = 1 from by decide) h56_3
          refine wk_aload_n xd_c9bd7cf5 rfl ?_
          refine wk_getR xf_91513225 xd_213499e1 ?_
          refine wk_aload_n xd_7c8c4512 rfl ?_
          refine wk_getR xf_62296e25 xd_11d500bf ?_
          obtain ⟨wD, hCD, hGD, hFD, hcD⟩ := jke_ok (w := (cm_u1 wB 0 3 (wB.1 2 11))) (jCl_fr (fun k i hs => by unfold jSup at hs; rw [hs_u1_ne (by omega), hFB k i (by omega) (by omega), hFA k i (by omega) (by omega)]) hc) hG2_
          refine wk_call (kd := 0) (i := 269) xd_a0cb6f2b rfl (wk_cal (as := [.inr (.inr (some 47)), .inr (.inr (some 33))]) (t := []) xl_560996d3 rfl xn_bc92ca73 xc_4468db2a rfl rfl xv_d8d455c0 rfl) (cm_C_mono (by omega) hCD) ?_
          refine wk_aload_n xd_8b4c1908 rfl ?_
          refine wk_getR xf_af66a6ef xd_ac3a99a2 ?_
          refine wk_aload_n xd_8b10b89b rfl ?_
          refine wk_getR xf_62296e25 xd_53433626 ?_
          obtain ⟨N, hN, hn, hrows⟩ := hB2 (by omega)
          obtain ⟨xL, wL, hCL, hGL, hFL, hcL⟩ := jlv_33 (w := wD) hN (by rw [hFD 116 2 (by omega) (by omega), hs_u1_ne (by omega)]; exact hn) (fun j hj => jBw_eq (by rw [hFD 117 j (by omega) (by omega), hs_u1_ne (by omega)]) (by rw [hFD 119 j (by omega) (by omega), hs_u1_ne (by omega)]) (hrows j hj)) hcD hGD
          refine wk_call (kd := 0) (i := 358) xd_131ae694 rfl (wk_cal (as := [.inr (.inr (some 116)), .inr (.inr (some 33))]) (t := []) xl_421bc58e rfl xn_b23ef4d7 xc_3455ba5a rfl rfl xv_acf911b2 rfl) (cm_C_mono (by omega) hCL) ?_
          exact wk_ireturn xd_6d4b68fe xr_df558ec9 rfl ⟨_, _, rfl, hGL, hcL, fun c i c1 c2 c3 c4 => by rw [hFL c i (by omega) (by omega), hFD c i (by omega) (by omega), hs_u1_ne (by omega), hFB c i (by omega) (by omega), hFA c i (by omega) (by omega)], .inl ⟨by omega, by rw [hFL 0 1 (by omega) (by omega), hFD 0 1 (by omega) (by omega), hs_u1_ne (by omega), hFB 0 1 (by omega) (by omega)]; exact hA0⟩⟩
      · have h40_2 := aw_ne_f (a := ((xB).toInt : Int)) (b := (0 : Int)) rfl hb_z h40_2
        refine wk_bipush xd_db944ec5 ?_
        refine wk_aload_n xd_487dfb67 rfl ?_
        refine wk_getR xf_b0c83767 xd_7b04425f ?_
        refine wk_getI xf_ec6e8f86 xd_36952332 ?_
        refine wk_isub xd_878b53be ?_
        exact wk_ireturn xd_7b45b843 xr_df558ec9 rfl ⟨_, _, rfl, hG2_, (jCl_fr (fun k i hs => by unfold jSup at hs; rw [hs_u1_ne (by omega), hFB k i (by omega) (by omega), hFA k i (by omega) (by omega)]) hc), fun c i c1 c2 c3 c4 => by rw [hs_u1_ne (by omega), hFB c i (by omega) (by omega), hFA c i (by omega) (by omega)], .inl ⟨by omega, by rw [hs_u1_ne (by omega), hFB 0 1 (by omega) (by omega)]; exact hA0⟩⟩
    · have h1_0 := aw_eq_f (a := ((k).toInt : Int)) (b := (0 : Int)) rfl hb_z h1_0
      refine wk_iload_n xd_18d366b6 rfl ?_
      refine wk_iconst xd_08e8a315 ?_
      refine wk_icmp xd_f0e9e087 (t := 13) rfl (fun h6_4 => ?_) (fun h6_4 => ?_)
      · have h6_4 := aw_eq_t (a := ((k).toInt : Int)) (b := (1 : Int)) rfl (show ((Int32.ofInt 1)).toInt = 1 from by decide) h6_4
        refine wk_aload_n xd_4d947265 rfl ?_
        refine wk_sipush xd_04c6660a ?_
        obtain ⟨wA, hCA, hGA, hFA, hA0⟩ := jot_400 (w := w) (show ((Int16.ofInt 400).toInt32).toInt = 400 from by decide) hG
        refine wk_call (kd := 0) (i := 117) xd_8b83e9fa rfl (wk_cal (as := [.inr (.inr (some 0)), .inl ((Int16.ofInt 400).toInt32)]) (t := []) xl_30e90cce rfl xn_e58bdcce xc_824ae56d rfl rfl xv_a03cc3f8 rfl) (cm_C_mono (by omega) hCA) ?_
        refine wk_aload_n xd_636fe270 rfl ?_
        refine wk_getR xf_af66a6ef xd_61b3a9eb ?_
        obtain ⟨xB, wB, hCB, hGB, hFB, hB0, hB1, hB2⟩ := jrb_ok (w := wA) hGA
        refine wk_call (kd := 0) (i := 356) xd_60daa2b9 rfl (wk_cal (as := [.inr (.inr (some 116))]) (t := []) xl_720528f1 rfl xn_ed7b14b9 xc_c701a39a rfl rfl xv_d26c51ae rfl) (cm_C_mono (by omega) hCB) ?_
        refine wk_istore_n xd_bbcf729f (by rw [xm_b8649787]; rfl) rfl ?_
        refine wk_aload_n xd_63d6a156 rfl ?_
        refine wk_aload_n xd_f8a54b82 rfl ?_
        refine wk_getR xf_b0c83767 xd_c81c55df ?_
        refine wk_getI xf_42ac9d61 xd_61d3ee66 ?_
        refine wk_putI xf_323159e2 (fun ci => wk_fitI ci) xd_b446fd5b ?_
        have hG6_ : sv_w sg (cm_u1 wB 0 3 (wB.1 2 11)) := sv_w_u1 hGB (by rw [xg_2addefec]; exact sv_in_top _)
        refine wk_iload_n xd_5943aea8 rfl ?_
        refine wk_if xd_7226489f (t := 54) rfl (fun h40_6 => ?_) (fun h40_6 => ?_)
        · have h40_6 := aw_ne_t (a := ((xB).toInt : Int)) (b := (0 : Int)) rfl hb_z h40_6
          refine wk_iload_n xd_35488e49 rfl ?_
          refine wk_iconst xd_91efd1ea ?_
          refine wk_icmp xd_0ffdccf1 (t := 82) rfl (fun h56_7 => ?_) (fun h56_7 => ?_)
          · have h56_7 := aw_ne_t (a := ((k).toInt : Int)) (b := (1 : Int)) rfl (show ((Int32.ofInt 1)).toInt = 1 from by decide) h56_7
            refine wk_aload_n xd_85cfc128 rfl ?_
            refine wk_getR xf_9db9faf8 xd_f16e2a1f ?_
            refine wk_aload_n xd_859360bb rfl ?_
            refine wk_getR xf_62296e25 xd_4ecf46e1 ?_
            obtain ⟨wD, hCD, hGD, hFD, hxD⟩ := xs_72_c5eb5496 (w := (cm_u1 wB 0 3 (wB.1 2 11))) hG6_
            refine wk_call (kd := 0) (i := 333) xd_6ff7517b rfl (wk_cal (as := [.inr (.inr (some 40)), .inr (.inr (some 33))]) (t := []) xl_38c3371c rfl xn_437ab768 xc_33cf4b98 rfl rfl xv_249f7330 rfl) (cm_C_mono (by omega) hCD) ?_
            have hcD : jCl wD := jCl_fr (w := (cm_u1 wB 0 3 (wB.1 2 11))) (fun k i hs => by unfold jSup at hs; exact (hFD k i (by omega)).1) (jCl_fr (fun k i hs => by unfold jSup at hs; rw [hs_u1_ne (by omega), hFB k i (by omega) (by omega), hFA k i (by omega) (by omega)]) hc)
            refine wk_aload_n xd_9f994edb rfl ?_
            refine wk_getR xf_af66a6ef xd_98fbb35a ?_
            refine wk_aload_n xd_9fc5ef48 rfl ?_
            refine wk_getR xf_9db9faf8 xd_0f95a96c ?_
            obtain ⟨N, hN, hn, hrows⟩ := hB2 (by omega)
            obtain ⟨xL, wL, hCL, hGL, hFL, hcL⟩ := jlv_40 (w := wD) hN (by rw [(hFD 116 2 (by omega)).1, hs_u1_ne (by omega)]; exact hn) (fun j hj => jBw_eq (by rw [(hFD 117 j (by omega)).1, hs_u1_ne (by omega)]) (by rw [(hFD 119 j (by omega)).1, hs_u1_ne (by omega)]) (hrows j hj)) hcD hGD
            refine wk_call (kd := 0) (i := 358) xd_461a1f25 rfl (wk_cal (as := [.inr (.inr (some 116)), .inr (.inr (some 40))]) (t := []) xl_421bc58e rfl xn_b23ef4d7 xc_3455ba5a rfl rfl xv_acf911b2 rfl) (cm_C_mono (by omega) hCL) ?_
            exact wk_ireturn xd_c0701ab7 xr_df558ec9 rfl ⟨_, _, rfl, hGL, hcL, fun c i c1 c2 c3 c4 => by rw [hFL c i (by omega) (by omega), (hFD c i (by omega)).1, hs_u1_ne (by omega), hFB c i (by omega) (by omega), hFA c i (by omega) (by omega)], .inl ⟨by omega, by rw [hFL 0 1 (by omega) (by omega), (hFD 0 1 (by omega)).1, hs_u1_ne (by omega), hFB 0 1 (by omega) (by omega)]; exact hA0⟩⟩
          · have h56_7 := aw_ne_f (a := ((k).toInt : Int)) (b := (1 : Int)) rfl (show ((Int32.ofInt 1)).toInt = 1 from by decide) h56_7
            refine wk_aload_n xd_c9bd7cf5 rfl ?_
            refine wk_getR xf_91513225 xd_213499e1 ?_
            refine wk_aload_n xd_7c8c4512 rfl ?_
            refine wk_getR xf_62296e25 xd_11d500bf ?_
            obtain ⟨wD, hCD, hGD, hFD, hcD⟩ := jke_ok (w := (cm_u1 wB 0 3 (wB.1 2 11))) (jCl_fr (fun k i hs => by unfold jSup at hs; rw [hs_u1_ne (by omega), hFB k i (by omega) (by omega), hFA k i (by omega) (by omega)]) hc) hG6_
            refine wk_call (kd := 0) (i := 269) xd_a0cb6f2b rfl (wk_cal (as := [.inr (.inr (some 47)), .inr (.inr (some 33))]) (t := []) xl_560996d3 rfl xn_bc92ca73 xc_4468db2a rfl rfl xv_d8d455c0 rfl) (cm_C_mono (by omega) hCD) ?_
            refine wk_aload_n xd_8b4c1908 rfl ?_
            refine wk_getR xf_af66a6ef xd_ac3a99a2 ?_
            refine wk_aload_n xd_8b10b89b rfl ?_
            refine wk_getR xf_62296e25 xd_53433626 ?_
            obtain ⟨N, hN, hn, hrows⟩ := hB2 (by omega)
            obtain ⟨xL, wL, hCL, hGL, hFL, hcL⟩ := jlv_33 (w := wD) hN (by rw [hFD 116 2 (by omega) (by omega), hs_u1_ne (by omega)]; exact hn) (fun j hj => jBw_eq (by rw [hFD 117 j (by omega) (by omega), hs_u1_ne (by omega)]) (by rw [hFD 119 j (by omega) (by omega), hs_u1_ne (by omega)]) (hrows j hj)) hcD hGD
            refine wk_call (kd := 0) (i := 358) xd_131ae694 rfl (wk_cal (as := [.inr (.inr (some 116)), .inr (.inr (some 33))]) (t := []) xl_421bc58e rfl xn_b23ef4d7 xc_3455ba5a rfl rfl xv_acf911b2 rfl) (cm_C_mono (by omega) hCL) ?_
            exact wk_ireturn xd_6d4b68fe xr_df558ec9 rfl ⟨_, _, rfl, hGL, hcL, fun c i c1 c2 c3 c4 => by rw [hFL c i (by omega) (by omega), hFD c i (by omega) (by omega), hs_u1_ne (by omega), hFB c i (by omega) (by omega), hFA c i (by omega) (by omega)], .inl ⟨by omega, by rw [hFL 0 1 (by omega) (by omega), hFD 0 1 (by omega) (by omega), hs_u1_ne (by omega), hFB 0 1 (by omega) (by omega)]; exact hA0⟩⟩
        · have h40_6 := aw_ne_f (a := ((xB).toInt : Int)) (b := (0 : Int)) rfl hb_z h40_6
          refine wk_bipush xd_db944ec5 ?_
          refine wk_aload_n xd_487dfb67 rfl ?_
          refine wk_getR xf_b0c83767 xd_7b04425f ?_
          refine wk_getI xf_ec6e8f86 xd_36952332 ?_
          refine wk_isub xd_878b53be ?_
          exact wk_ireturn xd_7b45b843 xr_df558ec9 rfl ⟨_, _, rfl, hG6_, (jCl_fr (fun k i hs => by unfold jSup at hs; rw [hs_u1_ne (by omega), hFB k i (by omega) (by omega), hFA k i (by omega) (by omega)]) hc), fun c i c1 c2 c3 c4 => by rw [hs_u1_ne (by omega), hFB c i (by omega) (by omega), hFA c i (by omega) (by omega)], .inl ⟨by omega, by rw [hs_u1_ne (by omega), hFB 0 1 (by omega) (by omega)]; exact hA0⟩⟩
      · have h6_4 := aw_eq_f (a := ((k).toInt : Int)) (b := (1 : Int)) rfl (show ((Int32.ofInt 1)).toInt = 1 from by decide) h6_4
        refine wk_sipush xd_02e735e7 ?_
        exact wk_ireturn xd_b83ea8dd xr_df558ec9 rfl ⟨_, _, rfl, hG, hc, fun _ _ _ _ _ _ => rfl, .inr ⟨by omega, rfl⟩⟩
  obtain ⟨o, hC, x, w', rfl, a⟩ := h
  exact ⟨x, w', hC, a⟩

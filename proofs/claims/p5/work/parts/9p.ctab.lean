/-! ## by hand: Table of the class, its leaves (wip/p2/gen9p.py) -/
set_option maxRecDepth 100000 in
theorem xd_522d0795 : decode (ia_code 183) 0 = .ok (.iload_n 0, 1) := fdd_d (by decide +kernel)
set_option maxRecDepth 100000 in
theorem xd_d630dcc4 : decode (ia_code 183) 1 = .ok (.iconst 2, 1) := fdd_d (by decide +kernel)
set_option maxRecDepth 100000 in
theorem xd_82dbfdcc : decode (ia_code 183) 2 = .ok (.iload_n 1, 1) := fdd_d (by decide +kernel)
set_option maxRecDepth 100000 in
theorem xd_44a508c7 : decode (ia_code 183) 3 = .ok (.imul, 1) := fdd_d (by decide +kernel)
set_option maxRecDepth 100000 in
theorem xd_f2f2dd96 : decode (ia_code 183) 4 = .ok (.ishr, 1) := fdd_d (by decide +kernel)
set_option maxRecDepth 100000 in
theorem xd_b7f16674 : decode (ia_code 183) 5 = .ok (.iconst 3, 1) := fdd_d (by decide +kernel)
set_option maxRecDepth 100000 in
theorem xd_3e9ebacd : decode (ia_code 183) 6 = .ok (.iand, 1) := fdd_d (by decide +kernel)
set_option maxRecDepth 100000 in
theorem xd_04324643 : decode (ia_code 183) 7 = .ok (.ireturn, 1) := fdd_d (by decide +kernel)
set_option maxRecDepth 100000 in
theorem xr_e57a3b38 : ia_ret 183 = some .int := by decide +kernel
set_option maxRecDepth 100000 in
theorem xm_0e30ebe8 : ia_maxL 183 = 2 := by decide +kernel
set_option maxRecDepth 100000 in
theorem xd_b530a102 : decode (ia_code 182) 0 = .ok (.iload_n 0, 1) := fdd_d (by decide +kernel)
set_option maxRecDepth 100000 in
theorem xd_4edb657a : decode (ia_code 182) 1 = .ok (.iconst 3, 1) := fdd_d (by decide +kernel)
set_option maxRecDepth 100000 in
theorem xd_aaecee55 : decode (ia_code 182) 2 = .ok (.iand, 1) := fdd_d (by decide +kernel)
set_option maxRecDepth 100000 in
theorem xd_c3d5983f : decode (ia_code 182) 3 = .ok (.iload_n 0, 1) := fdd_d (by decide +kernel)
set_option maxRecDepth 100000 in
theorem xd_3832bb0a : decode (ia_code 182) 4 = .ok (.iconst 2, 1) := fdd_d (by decide +kernel)
set_option maxRecDepth 100000 in
theorem xd_827ae8e9 : decode (ia_code 182) 5 = .ok (.ishr, 1) := fdd_d (by decide +kernel)
set_option maxRecDepth 100000 in
theorem xd_2b025b3a : decode (ia_code 182) 6 = .ok (.iconst 3, 1) := fdd_d (by decide +kernel)
set_option maxRecDepth 100000 in
theorem xd_4e168fb2 : decode (ia_code 182) 7 = .ok (.iand, 1) := fdd_d (by decide +kernel)
set_option maxRecDepth 100000 in
theorem xd_19f208bc : decode (ia_code 182) 8 = .ok (.iadd, 1) := fdd_d (by decide +kernel)
set_option maxRecDepth 100000 in
theorem xd_2efa08f0 : decode (ia_code 182) 9 = .ok (.iload_n 0, 1) := fdd_d (by decide +kernel)
set_option maxRecDepth 100000 in
theorem xd_8205475e : decode (ia_code 182) 10 = .ok (.iconst 4, 1) := fdd_d (by decide +kernel)
set_option maxRecDepth 100000 in
theorem xd_4eb92516 : decode (ia_code 182) 11 = .ok (.ishr, 1) := fdd_d (by decide +kernel)
set_option maxRecDepth 100000 in
theorem xd_1e7552ce : decode (ia_code 182) 12 = .ok (.iconst 3, 1) := fdd_d (by decide +kernel)
set_option maxRecDepth 100000 in
theorem xd_82d5424d : decode (ia_code 182) 13 = .ok (.iand, 1) := fdd_d (by decide +kernel)
set_option maxRecDepth 100000 in
theorem xd_c2606b4f : decode (ia_code 182) 14 = .ok (.iadd, 1) := fdd_d (by decide +kernel)
set_option maxRecDepth 100000 in
theorem xd_94a60ada : decode (ia_code 182) 15 = .ok (.iload_n 0, 1) := fdd_d (by decide +kernel)
set_option maxRecDepth 100000 in
theorem xd_6a6a1184 : decode (ia_code 182) 16 = .ok (.bipush 6, 2) := fdd_d (by decide +kernel)
set_option maxRecDepth 100000 in
theorem xd_b6ba3dfb : decode (ia_code 182) 18 = .ok (.ishr, 1) := fdd_d (by decide +kernel)
set_option maxRecDepth 100000 in
theorem xd_9e4ed98e : decode (ia_code 182) 19 = .ok (.iconst 3, 1) := fdd_d (by decide +kernel)
set_option maxRecDepth 100000 in
theorem xd_cb051986 : decode (ia_code 182) 20 = .ok (.iand, 1) := fdd_d (by decide +kernel)
set_option maxRecDepth 100000 in
theorem xd_85cc8c01 : decode (ia_code 182) 21 = .ok (.iadd, 1) := fdd_d (by decide +kernel)
set_option maxRecDepth 100000 in
theorem xd_e1140392 : decode (ia_code 182) 22 = .ok (.ireturn, 1) := fdd_d (by decide +kernel)
set_option maxRecDepth 100000 in
theorem xr_38ece2bd : ia_ret 182 = some .int := by decide +kernel
set_option maxRecDepth 100000 in
theorem xm_aa5993e2 : ia_maxL 182 = 1 := by decide +kernel
set_option maxRecDepth 100000 in
theorem xd_b392ea8f : decode (ia_code 227) 0 = .ok (.iconst 0, 1) := fdd_d (by decide +kernel)
set_option maxRecDepth 100000 in
theorem xd_65d702c0 : decode (ia_code 227) 1 = .ok (.istore_n 1, 1) := fdd_d (by decide +kernel)
set_option maxRecDepth 100000 in
theorem xm_1cc44445 : ia_maxL 227 = 3 := by decide +kernel
set_option maxRecDepth 100000 in
theorem xd_da6259df : decode (ia_code 227) 2 = .ok (.iconst 3, 1) := fdd_d (by decide +kernel)
set_option maxRecDepth 100000 in
theorem xd_fb4cb41f : decode (ia_code 227) 3 = .ok (.istore_n 2, 1) := fdd_d (by decide +kernel)
set_option maxRecDepth 100000 in
theorem xd_1f618497 : decode (ia_code 227) 4 = .ok (.iload_n 2, 1) := fdd_d (by decide +kernel)
set_option maxRecDepth 100000 in
theorem xd_c1a100ef : decode (ia_code 227) 5 = .ok (.ifCond .lt 21, 3) := fdd_d (by decide +kernel)
set_option maxRecDepth 100000 in
theorem xd_58241cf2 : decode (ia_code 227) 8 = .ok (.iload_n 1, 1) := fdd_d (by decide +kernel)
set_option maxRecDepth 100000 in
theorem xd_72e702d5 : decode (ia_code 227) 9 = .ok (.bipush 6, 2) := fdd_d (by decide +kernel)
set_option maxRecDepth 100000 in
theorem xd_e7783404 : decode (ia_code 227) 11 = .ok (.imul, 1) := fdd_d (by decide +kernel)
set_option maxRecDepth 100000 in
theorem xd_1c1d48a3 : decode (ia_code 227) 12 = .ok (.aload_n 0, 1) := fdd_d (by decide +kernel)
set_option maxRecDepth 100000 in
theorem xd_12582561 : decode (ia_code 227) 13 = .ok (.getfield 27, 3) := fdd_d (by decide +kernel)
set_option maxRecDepth 100000 in
theorem xf_ac9a6761 : wk_gf 227 27 121 6 (125 + 3) = true := by decide +kernel
set_option maxRecDepth 100000 in
theorem xd_3c82693d : decode (ia_code 227) 16 = .ok (.iload_n 2, 1) := fdd_d (by decide +kernel)
set_option maxRecDepth 100000 in
theorem xd_03f25642 : decode (ia_code 227) 17 = .ok (.iaload, 1) := fdd_d (by decide +kernel)
set_option maxRecDepth 100000 in
theorem xf_4ab81c3b : wk_ar 125 50 4 = true := by decide +kernel
set_option maxRecDepth 100000 in
theorem xd_2021dc62 : decode (ia_code 227) 18 = .ok (.iadd, 1) := fdd_d (by decide +kernel)
set_option maxRecDepth 100000 in
theorem xd_58c15b6a : decode (ia_code 227) 19 = .ok (.istore_n 1, 1) := fdd_d (by decide +kernel)
set_option maxRecDepth 100000 in
theorem xd_8c55e719 : decode (ia_code 227) 20 = .ok (.iinc 2 (-1), 3) := fdd_d (by decide +kernel)
set_option maxRecDepth 100000 in
theorem xd_6c97072d : decode (ia_code 227) 23 = .ok (.goto (-19), 3) := fdd_d (by decide +kernel)
set_option maxRecDepth 100000 in
theorem xd_233cbac5 : decode (ia_code 227) 26 = .ok (.iload_n 1, 1) := fdd_d (by decide +kernel)
set_option maxRecDepth 100000 in
theorem xd_c1f61552 : decode (ia_code 227) 27 = .ok (.ireturn, 1) := fdd_d (by decide +kernel)
set_option maxRecDepth 100000 in
theorem xr_e689e14c : ia_ret 227 = some .int := by decide +kernel
set_option maxRecDepth 100000 in
theorem xd_28d679ca : decode (ia_code 226) 2 = .ok (.iload_n 3, 1) := fdd_d (by decide +kernel)
set_option maxRecDepth 100000 in
theorem xd_dae17101 : decode (ia_code 226) 3 = .ok (.iconst 4, 1) := fdd_d (by decide +kernel)
set_option maxRecDepth 100000 in
theorem xd_03ca3989 : decode (ia_code 226) 4 = .ok (.if_icmp .ge 25, 3) := fdd_d (by decide +kernel)
set_option maxRecDepth 100000 in
theorem xd_ae5a9b30 : decode (ia_code 226) 7 = .ok (.aload_n 0, 1) := fdd_d (by decide +kernel)
set_option maxRecDepth 100000 in
theorem xd_103e3280 : decode (ia_code 226) 8 = .ok (.getfield 27, 3) := fdd_d (by decide +kernel)
set_option maxRecDepth 100000 in
theorem xf_c2167c20 : wk_gf 226 27 121 6 (125 + 3) = true := by decide +kernel
set_option maxRecDepth 100000 in
theorem xd_19d7c362 : decode (ia_code 226) 11 = .ok (.iload_n 3, 1) := fdd_d (by decide +kernel)
set_option maxRecDepth 100000 in
theorem xd_020caac7 : decode (ia_code 226) 12 = .ok (.dup2, 1) := fdd_d (by decide +kernel)
set_option maxRecDepth 100000 in
theorem xd_cc3ad83c : decode (ia_code 226) 13 = .ok (.iaload, 1) := fdd_d (by decide +kernel)
set_option maxRecDepth 100000 in
theorem xd_bf98a195 : decode (ia_code 226) 14 = .ok (.iload_n 2, 1) := fdd_d (by decide +kernel)
set_option maxRecDepth 100000 in
theorem xd_634b3191 : decode (ia_code 226) 15 = .ok (.iload_n 1, 1) := fdd_d (by decide +kernel)
set_option maxRecDepth 100000 in
theorem xd_6f6e5bcc : decode (ia_code 226) 16 = .ok (.iload_n 3, 1) := fdd_d (by decide +kernel)
set_option maxRecDepth 100000 in
theorem xl_154ab769 : ia_pl (ia_cls 226) 115 = some (1, 183, 1, 0, 1072) := by decide +kernel
set_option maxRecDepth 100000 in
theorem xn_728d196c : ia_na 183 = 2 := by decide +kernel
set_option maxRecDepth 100000 in
theorem xc_bffd0008 : ia_mc 183 = 0 ∧ ia_ms 183 = 0 := ⟨by decide +kernel, by decide +kernel⟩
set_option maxRecDepth 100000 in
theorem xd_a84c4f1a : decode (ia_code 226) 17 = .ok (.invokestatic 115, 3) := fdd_d (by decide +kernel)
set_option maxRecDepth 100000 in
theorem xd_bc54608c : decode (ia_code 226) 20 = .ok (.imul, 1) := fdd_d (by decide +kernel)
set_option maxRecDepth 100000 in
theorem xd_dbd78f9f : decode (ia_code 226) 21 = .ok (.isub, 1) := fdd_d (by decide +kernel)
set_option maxRecDepth 100000 in
theorem xd_4e63f1f8 : decode (ia_code 226) 22 = .ok (.iastore, 1) := fdd_d (by decide +kernel)
set_option maxRecDepth 100000 in
theorem xf_c0d09656 : sv_gr sg 125 = [] := by decide +kernel
set_option maxRecDepth 100000 in
theorem xd_a6b9241f : decode (ia_code 226) 23 = .ok (.iinc 3 1, 3) := fdd_d (by decide +kernel)
set_option maxRecDepth 100000 in
theorem xm_bfc0f856 : ia_maxL 226 = 4 := by decide +kernel
set_option maxRecDepth 100000 in
theorem xd_0877080b : decode (ia_code 226) 26 = .ok (.goto (-24), 3) := fdd_d (by decide +kernel)
set_option maxRecDepth 100000 in
theorem xd_16197a81 : decode (ia_code 226) 0 = .ok (.iconst 0, 1) := fdd_d (by decide +kernel)
set_option maxRecDepth 100000 in
theorem xd_719b4ae1 : decode (ia_code 226) 1 = .ok (.istore_n 3, 1) := fdd_d (by decide +kernel)
set_option maxRecDepth 100000 in
theorem xd_a5f46b06 : decode (ia_code 226) 29 = .ok (.return_, 1) := fdd_d (by decide +kernel)
set_option maxRecDepth 100000 in
theorem xr_e8a60fbd : ia_ret 226 = none := by decide +kernel
set_option maxRecDepth 100000 in
theorem xd_dbad9c1e : decode (ia_code 219) 29 = .ok (.iload 5, 2) := fdd_d (by decide +kernel)
set_option maxRecDepth 100000 in
theorem xd_7115fadf : decode (ia_code 219) 31 = .ok (.iconst 4, 1) := fdd_d (by decide +kernel)
set_option maxRecDepth 100000 in
theorem xd_cfa6c6e1 : decode (ia_code 219) 32 = .ok (.if_icmp .ge 28, 3) := fdd_d (by decide +kernel)
set_option maxRecDepth 100000 in
theorem xd_0044ac46 : decode (ia_code 219) 60 = .ok (.iload 4, 2) := fdd_d (by decide +kernel)
set_option maxRecDepth 100000 in
theorem xl_1687f187 : ia_pl (ia_cls 219) 101 = some (1, 182, 1, 0, 1057) := by decide +kernel
set_option maxRecDepth 100000 in
theorem xn_d6e46166 : ia_na 182 = 1 := by decide +kernel
set_option maxRecDepth 100000 in
theorem xc_19eec36c : ia_mc 182 = 0 ∧ ia_ms 182 = 0 := ⟨by decide +kernel, by decide +kernel⟩
set_option maxRecDepth 100000 in
theorem xd_f8fbc90a : decode (ia_code 219) 62 = .ok (.invokestatic 101, 3) := fdd_d (by decide +kernel)
set_option maxRecDepth 100000 in
theorem xd_27b96b10 : decode (ia_code 219) 65 = .ok (.aload_n 0, 1) := fdd_d (by decide +kernel)
set_option maxRecDepth 100000 in
theorem xd_96cdbb24 : decode (ia_code 219) 66 = .ok (.getfield 30, 3) := fdd_d (by decide +kernel)
set_option maxRecDepth 100000 in
theorem xf_1694965d : wk_gf 219 30 121 7 (126 + 3) = true := by decide +kernel
set_option maxRecDepth 100000 in
theorem xd_403f7378 : decode (ia_code 219) 69 = .ok (.iload_n 1, 1) := fdd_d (by decide +kernel)
set_option maxRecDepth 100000 in
theorem xd_ae81b0fc : decode (ia_code 219) 70 = .ok (.iconst 1, 1) := fdd_d (by decide +kernel)
set_option maxRecDepth 100000 in
theorem xd_f8a98a21 : decode (ia_code 219) 71 = .ok (.iadd, 1) := fdd_d (by decide +kernel)
set_option maxRecDepth 100000 in
theorem xd_89985b26 : decode (ia_code 219) 72 = .ok (.iaload, 1) := fdd_d (by decide +kernel)
set_option maxRecDepth 100000 in
theorem xf_79fd7716 : wk_ar 126 50 7 = true := by decide +kernel
set_option maxRecDepth 100000 in
theorem xd_fd7de1a2 : decode (ia_code 219) 73 = .ok (.iadd, 1) := fdd_d (by decide +kernel)
set_option maxRecDepth 100000 in
theorem xd_204c4d5e : decode (ia_code 219) 74 = .ok (.iload_n 3, 1) := fdd_d (by decide +kernel)
set_option maxRecDepth 100000 in
theorem xd_849e2385 : decode (ia_code 219) 75 = .ok (.if_icmp .gt 7, 3) := fdd_d (by decide +kernel)
set_option maxRecDepth 100000 in
theorem xd_cbb18b44 : decode (ia_code 219) 82 = .ok (.iconst 0, 1) := fdd_d (by decide +kernel)
set_option maxRecDepth 100000 in
theorem xd_f19bec80 : decode (ia_code 219) 83 = .ok (.ireturn, 1) := fdd_d (by decide +kernel)
set_option maxRecDepth 100000 in
theorem xr_6747b5b0 : ia_ret 219 = some .boolean := by decide +kernel
set_option maxRecDepth 100000 in
theorem xd_17c296fc : decode (ia_code 219) 78 = .ok (.iconst 1, 1) := fdd_d (by decide +kernel)
set_option maxRecDepth 100000 in
theorem xd_0c9e7561 : decode (ia_code 219) 79 = .ok (.goto 4, 3) := fdd_d (by decide +kernel)
set_option maxRecDepth 100000 in
theorem xd_c6eedca3 : decode (ia_code 219) 35 = .ok (.iload 4, 2) := fdd_d (by decide +kernel)
set_option maxRecDepth 100000 in
theorem xd_1f4af46e : decode (ia_code 219) 37 = .ok (.iload 5, 2) := fdd_d (by decide +kernel)
set_option maxRecDepth 100000 in
theorem xl_9e75b103 : ia_pl (ia_cls 219) 115 = some (1, 183, 1, 0, 1072) := by decide +kernel
set_option maxRecDepth 100000 in
theorem xd_8f88cce3 : decode (ia_code 219) 39 = .ok (.invokestatic 115, 3) := fdd_d (by decide +kernel)
set_option maxRecDepth 100000 in
theorem xd_883b3fb1 : decode (ia_code 219) 42 = .ok (.aload_n 0, 1) := fdd_d (by decide +kernel)
set_option maxRecDepth 100000 in
theorem xd_a4cd250b : decode (ia_code 219) 43 = .ok (.getfield 27, 3) := fdd_d (by decide +kernel)
set_option maxRecDepth 100000 in
theorem xf_d09feb0b : wk_gf 219 27 121 6 (125 + 3) = true := by decide +kernel
set_option maxRecDepth 100000 in
theorem xd_e54949b0 : decode (ia_code 219) 46 = .ok (.iload 5, 2) := fdd_d (by decide +kernel)
set_option maxRecDepth 100000 in
theorem xd_a59379fb : decode (ia_code 219) 48 = .ok (.iaload, 1) := fdd_d (by decide +kernel)
set_option maxRecDepth 100000 in
theorem xd_c3804121 : decode (ia_code 219) 49 = .ok (.if_icmp .le 5, 3) := fdd_d (by decide +kernel)
set_option maxRecDepth 100000 in
theorem xd_e877cc92 : decode (ia_code 219) 54 = .ok (.iinc 5 1, 3) := fdd_d (by decide +kernel)
set_option maxRecDepth 100000 in
theorem xm_550a7c05 : ia_maxL 219 = 6 := by decide +kernel
set_option maxRecDepth 100000 in
theorem xd_9c6e2128 : decode (ia_code 219) 57 = .ok (.goto (-28), 3) := fdd_d (by decide +kernel)
set_option maxRecDepth 100000 in
theorem xd_50278325 : decode (ia_code 219) 52 = .ok (.iconst 0, 1) := fdd_d (by decide +kernel)
set_option maxRecDepth 100000 in
theorem xd_03513d40 : decode (ia_code 219) 53 = .ok (.ireturn, 1) := fdd_d (by decide +kernel)
set_option maxRecDepth 100000 in
theorem xd_e69d78c7 : decode (ia_code 219) 0 = .ok (.aload_n 0, 1) := fdd_d (by decide +kernel)
set_option maxRecDepth 100000 in
theorem xd_72b03b3e : decode (ia_code 219) 1 = .ok (.getfield 24, 3) := fdd_d (by decide +kernel)
set_option maxRecDepth 100000 in
theorem xf_bf9146c4 : wk_gf 219 24 121 5 (124 + 3) = true := by decide +kernel
set_option maxRecDepth 100000 in
theorem xd_81a22389 : decode (ia_code 219) 4 = .ok (.iload_n 1, 1) := fdd_d (by decide +kernel)
set_option maxRecDepth 100000 in
theorem xd_7e82eebf : decode (ia_code 219) 5 = .ok (.bipush 35, 2) := fdd_d (by decide +kernel)
set_option maxRecDepth 100000 in
theorem xd_56b5ac37 : decode (ia_code 219) 7 = .ok (.imul, 1) := fdd_d (by decide +kernel)
set_option maxRecDepth 100000 in
theorem xd_c6e7bbec : decode (ia_code 219) 8 = .ok (.iload_n 2, 1) := fdd_d (by decide +kernel)
set_option maxRecDepth 100000 in
theorem xd_70c24e35 : decode (ia_code 219) 9 = .ok (.iadd, 1) := fdd_d (by decide +kernel)
set_option maxRecDepth 100000 in
theorem xd_b56b286c : decode (ia_code 219) 10 = .ok (.iaload, 1) := fdd_d (by decide +kernel)
set_option maxRecDepth 100000 in
theorem xf_59f00e87 : wk_ar 124 50 210 = true := by decide +kernel
set_option maxRecDepth 100000 in
theorem xd_16fdfdf4 : decode (ia_code 219) 11 = .ok (.aload_n 0, 1) := fdd_d (by decide +kernel)
set_option maxRecDepth 100000 in
theorem xd_9fbe482a : decode (ia_code 219) 12 = .ok (.getfield 62, 3) := fdd_d (by decide +kernel)
set_option maxRecDepth 100000 in
theorem xf_d1f01619 : wk_gf 219 62 121 8 0 = true := by decide +kernel
set_option maxRecDepth 100000 in
theorem xd_ebff5671 : decode (ia_code 219) 15 = .ok (.if_icmp .eq 5, 3) := fdd_d (by decide +kernel)
set_option maxRecDepth 100000 in
theorem xd_f5533e05 : decode (ia_code 219) 20 = .ok (.iload_n 2, 1) := fdd_d (by decide +kernel)
set_option maxRecDepth 100000 in
theorem xl_b1103d50 : ia_pl (ia_cls 219) 88 = some (1, 176, 1, 0, 1031) := by decide +kernel
set_option maxRecDepth 100000 in
theorem xn_d2327573 : ia_na 176 = 1 := by decide +kernel
set_option maxRecDepth 100000 in
theorem xc_fe717d23 : ia_mc 176 = 0 ∧ ia_ms 176 = 0 := ⟨by decide +kernel, by decide +kernel⟩
set_option maxRecDepth 100000 in
theorem xd_e21d2059 : decode (ia_code 219) 21 = .ok (.invokestatic 88, 3) := fdd_d (by decide +kernel)
set_option maxRecDepth 100000 in
theorem xd_e102897b : decode (ia_code 219) 24 = .ok (.istore 4, 2) := fdd_d (by decide +kernel)
set_option maxRecDepth 100000 in
theorem xd_7a3f888b : decode (ia_code 219) 26 = .ok (.iconst 0, 1) := fdd_d (by decide +kernel)
set_option maxRecDepth 100000 in
theorem xd_e51a0d8b : decode (ia_code 219) 27 = .ok (.istore 5, 2) := fdd_d (by decide +kernel)
set_option maxRecDepth 100000 in
theorem xd_c768cd36 : decode (ia_code 219) 18 = .ok (.iconst 0, 1) := fdd_d (by decide +kernel)
set_option maxRecDepth 100000 in
theorem xd_9ec6a64b : decode (ia_code 219) 19 = .ok (.ireturn, 1) := fdd_d (by decide +kernel)
theorem jat_ok (w : cm_W) (k : Int32) : cm_C 1 176 [.inl k] w (some (.inl (cm_pr ia_arA k)), w) := Or.inl (Or.inl ⟨rfl, k, rfl, rfl⟩)
theorem jhm_ok (w : cm_W) (k : Int32) : ∃ x : Int32, cm_C 1 179 [.inl k] w (some (.inl x), w) ∧ 0 ≤ x.toInt ∧ x.toInt ≤ 35 := by
  refine ⟨cm_pr ia_arH k, Or.inl (Or.inr ⟨rfl, k, rfl, rfl⟩), ?_⟩
  have h := hb_in (hs_pr (by decide) hs_arH k)
  omega
theorem jm3 (x : Int32) : 0 ≤ (x &&& Int32.ofInt 3).toInt ∧ (x &&& Int32.ofInt 3).toInt ≤ 3 := by
  have e1 : ia_E (Int32.ofInt 3) = 2147483651 := by decide
  have h := sv_and0_ok sv_top (2147483651, 2147483651) x (Int32.ofInt 3) (sv_in_top _) ⟨Nat.le_of_eq e1.symm, Nat.le_of_eq e1⟩
  have h1 : 2147483648 ≤ ia_E (x &&& Int32.ofInt 3) := h.1
  have h2 : ia_E (x &&& Int32.ofInt 3) ≤ 2147483651 := h.2
  rw [ia_toInt]
  omega
theorem jpo_ok (w : cm_W) (p : Int32) {z : Int32} {F : Nat} (hz : z.toInt = (F : Int)) (hF : F < 100000) : cm_C 1 183 [.inl p, .inl z] w (some (.inl (hu_n p F)), w) := by
  obtain rfl : z = Int32.ofNat F := hk_of hz hF
  refine wk_exact (d := 0) (by rw [xm_0e30ebe8]; exact Nat.le_of_ble_eq_true rfl) ?_
  rw [show cm_ent 183 [.inl p, .inl (Int32.ofNat F)] = [some (.inl p), some (.inl (Int32.ofNat F))] from by unfold cm_ent; rw [xm_0e30ebe8]; rfl]
  refine wk_iload_n xd_522d0795 rfl ?_
  refine wk_iconst xd_d630dcc4 ?_
  refine wk_iload_n xd_82dbfdcc rfl ?_
  refine wk_imul xd_44a508c7 ?_
  refine wk_ishr xd_f2f2dd96 ?_
  refine wk_iconst xd_b7f16674 ?_
  refine wk_iand xd_3e9ebacd ?_
  exact wk_ireturn xd_04324643 xr_e57a3b38 rfl rfl
def jpi (p : Int32) : Int32 := (p &&& Int32.ofInt 3) + (p >>> (Int32.ofInt 2 &&& 31) &&& Int32.ofInt 3) + (p >>> (Int32.ofInt 4 &&& 31) &&& Int32.ofInt 3) + (p >>> ((Int8.ofInt 6).toInt32 &&& 31) &&& Int32.ofInt 3)
theorem jpi_ok (w : cm_W) (p : Int32) : cm_C 1 182 [.inl p] w (some (.inl (jpi p)), w) := by
  refine wk_exact (d := 0) (by rw [xm_aa5993e2]; exact Nat.le_of_ble_eq_true rfl) ?_
  rw [show cm_ent 182 [.inl p] = [some (.inl p)] from by unfold cm_ent; rw [xm_aa5993e2]; rfl]
  refine wk_iload_n xd_b530a102 rfl ?_
  refine wk_iconst xd_4edb657a ?_
  refine wk_iand xd_aaecee55 ?_
  refine wk_iload_n xd_c3d5983f rfl ?_
  refine wk_iconst xd_3832bb0a ?_
  refine wk_ishr xd_827ae8e9 ?_
  refine wk_iconst xd_2b025b3a ?_
  refine wk_iand xd_4e168fb2 ?_
  refine wk_iadd xd_19f208bc ?_
  refine wk_iload_n xd_2efa08f0 rfl ?_
  refine wk_iconst xd_8205475e ?_
  refine wk_ishr xd_4eb92516 ?_
  refine wk_iconst xd_1e7552ce ?_
  refine wk_iand xd_82d5424d ?_
  refine wk_iadd xd_c2606b4f ?_
  refine wk_iload_n xd_94a60ada rfl ?_
  refine wk_bipush xd_6a6a1184 ?_
  refine wk_ishr xd_b6ba3dfb ?_
  refine wk_iconst xd_9e4ed98e ?_
  refine wk_iand xd_cb051986 ?_
  refine wk_iadd xd_85cc8c01 ?_
  exact wk_ireturn xd_e1140392 xr_38ece2bd rfl rfl
theorem jpi_in (p : Int32) : 0 ≤ (jpi p).toInt ∧ (jpi p).toInt ≤ 12 := by
  have h1 := jm3 p
  have h2 := jm3 (p >>> (Int32.ofInt 2 &&& 31))
  have h3 := jm3 (p >>> (Int32.ofInt 4 &&& 31))
  have h4 := jm3 (p >>> ((Int8.ofInt 6).toInt32 &&& 31))
  have e1 := aw_add (x := p &&& Int32.ofInt 3) rfl (z := p >>> (Int32.ofInt 2 &&& 31) &&& Int32.ofInt 3) rfl (by omega) (by omega)
  have e2 := aw_add e1 (z := p >>> (Int32.ofInt 4 &&& 31) &&& Int32.ofInt 3) rfl (by omega) (by omega)
  have e3 := aw_add e2 (z := p >>> ((Int8.ofInt 6).toInt32 &&& 31) &&& Int32.ofInt 3) rfl (by omega) (by omega)
  unfold jpi
  rw [e3]
  omega
/-- the portions of a plate, by its place in the row of all -/
noncomputable def jn (k f : Nat) : Nat := (hu_n (cm_pr ia_arA (Int32.ofNat k)) f).toInt.toNat
noncomputable def jP (k : Nat) : Int := (jpi (cm_pr ia_arA (Int32.ofNat k))).toInt
theorem jn_le (k f : Nat) : jn k f ≤ 3 := by
  have := hu_n_in (cm_pr ia_arA (Int32.ofNat k)) f
  unfold jn
  omega
theorem jn_to (k f : Nat) : (hu_n (cm_pr ia_arA (Int32.ofNat k)) f).toInt = (jn k f : Int) := by
  have := hu_n_in (cm_pr ia_arA (Int32.ofNat k)) f
  unfold jn
  omega
theorem jP_in (k : Nat) : 0 ≤ jP k ∧ jP k ≤ 12 := jpi_in _
/-- what is left, as it is told -/
def jTl (w : cm_W) (l : Nat → Nat) : Prop := ∀ f, f < 4 → (w.1 125 f).toInt = (l f : Int)
def jCd (l : Nat → Nat) : Nat := l 0 + 6 * l 1 + 36 * l 2 + 216 * l 3
theorem jsc_ok {w : cm_W} {l : Nat → Nat} (hl : jTl w l) (h5 : ∀ f, f < 4 → l f ≤ 5) : ∃ x : Int32, cm_C 1 227 [.inr (.inr (some 121))] w (some (.inl x), w) ∧ x.toInt = (jCd l : Int) := by
  have h0_ := hl 0 (by omega)
  have h1_ := hl 1 (by omega)
  have h2_ := hl 2 (by omega)
  have h3_ := hl 3 (by omega)
  have g0 := h5 0 (by omega)
  have g1 := h5 1 (by omega)
  have g2 := h5 2 (by omega)
  have g3 := h5 3 (by omega)
  have h : ∃ o, cm_C (0 + 1) 227 [.inr (.inr (some 121))] w o ∧ (fun o : cm_O => ∃ x : Int32, o = (some (.inl x), w) ∧ x.toInt = (jCd l : Int)) o := by
    refine wk_entry (by rw [xm_1cc44445]; exact Nat.le_of_ble_eq_true rfl) ?_
    rw [show cm_ent 227 [.inr (.inr (some 121))] = [some (.inr (.inr (some 121))), none, none] from by unfold cm_ent; rw [xm_1cc44445]; rfl]
    refine wk_iconst xd_b392ea8f ?_
    refine wk_istore_n xd_65d702c0 (by rw [xm_1cc44445]; rfl) rfl ?_
    refine wk_iconst xd_da6259df ?_
    refine wk_istore_n xd_fb4cb41f (by rw [xm_1cc44445]; rfl) rfl ?_
    refine wk_iload_n xd_1f618497 rfl ?_
    refine wk_if xd_c1a100ef (t := 26) rfl (fun h => absurd (aw_lt_t (show ((Int32.ofInt 3)).toInt = 3 from by decide) hb_z h) (by omega)) (fun _ => ?_)
    refine wk_iload_n xd_58241cf2 rfl ?_
    refine wk_bipush xd_72e702d5 ?_
    refine aw_imul (a := (0 : Int)) (b := (6 : Int)) (e := (0 : Int)) xd_e7783404 (show ((Int32.ofInt 0)).toInt = 0 from by decide) (show (((Int8.ofInt 6).toInt32)).toInt = 6 from by decide) (by omega) (by omega) (by omega) (fun v2_ p2_ => ?_)
    refine wk_aload_n xd_1c1d48a3 rfl ?_
    refine wk_getR xf_ac9a6761 xd_12582561 ?_
    refine wk_iload_n xd_3c82693d rfl ?_
    refine aw_iaload (i := 3) xf_4ab81c3b (show ((Int32.ofInt 3)).toInt = 3 from by decide) (by omega) (by omega) xd_03f25642 ?_
    refine aw_iadd (a := (0 : Int)) (b := (((l 3) : Int) : Int)) (e := (((l 3) : Int) : Int)) xd_2021dc62 p2_ (show ((w.1 125 3)).toInt = (((l 3) : Int) : Int) from h3_) (by omega) (by omega) (by omega) (fun v3_ p3_ => ?_)
    refine wk_istore_n xd_58c15b6a (by rw [xm_1cc44445]; rfl) rfl ?_
    refine aw_iinc (a := (3 : Int)) (b := ((-1) : Int)) (e := (2 : Int)) xd_8c55e719 (by rw [xm_1cc44445]; rfl) rfl rfl (show ((Int32.ofInt 3)).toInt = 3 from by decide) (show ((Int32.ofInt (-1))).toInt = (-1) from by decide) (by omega) (by omega) (by omega) (fun v4_ p4_ => ?_)
    refine wk_goto xd_6c97072d (t := 4) rfl ?_
    refine wk_iload_n xd_1f618497 rfl ?_
    refine wk_if xd_c1a100ef (t := 26) rfl (fun h => absurd (aw_lt_t p4_ hb_z h) (by omega)) (fun _ => ?_)
    refine wk_iload_n xd_58241cf2 rfl ?_
    refine wk_bipush xd_72e702d5 ?_
    refine aw_imul (a := (((l 3) : Int) : Int)) (b := (6 : Int)) (e := (6 * ((l 3) : Int) : Int)) xd_e7783404 p3_ (show (((Int8.ofInt 6).toInt32)).toInt = 6 from by decide) (by omega) (by omega) (by omega) (fun v6_ p6_ => ?_)
    refine wk_aload_n xd_1c1d48a3 rfl ?_
    refine wk_getR xf_ac9a6761 xd_12582561 ?_
    refine wk_iload_n xd_3c82693d rfl ?_
    refine aw_iaload (i := 2) xf_4ab81c3b p4_ (by omega) (by omega) xd_03f25642 ?_
    refine aw_iadd (a := (6 * ((l 3) : Int) : Int)) (b := (((l 2) : Int) : Int)) (e := (6 * ((l 3) : Int) + ((l 2) : Int) : Int)) xd_2021dc62 p6_ (show ((w.1 125 2)).toInt = (((l 2) : Int) : Int) from h2_) (by omega) (by omega) (by omega) (fun v7_ p7_ => ?_)
    refine wk_istore_n xd_58c15b6a (by rw [xm_1cc44445]; rfl) rfl ?_
    refine aw_iinc (a := (2 : Int)) (b := ((-1) : Int)) (e := (1 : Int)) xd_8c55e719 (by rw [xm_1cc44445]; rfl) rfl rfl p4_ (show ((Int32.ofInt (-1))).toInt = (-1) from by decide) (by omega) (by omega) (by omega) (fun v8_ p8_ => ?_)
    refine wk_goto xd_6c97072d (t := 4) rfl ?_
    refine wk_iload_n xd_1f618497 rfl ?_
    refine wk_if xd_c1a100ef (t := 26) rfl (fun h => absurd (aw_lt_t p8_ hb_z h) (by omega)) (fun _ => ?_)
    refine wk_iload_n xd_58241cf2 rfl ?_
    refine wk_bipush xd_72e702d5 ?_
    refine aw_imul (a := (6 * ((l 3) : Int) + ((l 2) : Int) : Int)) (b := (6 : Int)) (e := (36 * ((l 3) : Int) + 6 * ((l 2) : Int) : Int)) xd_e7783404 p7_ (show (((Int8.ofInt 6).toInt32)).toInt = 6 from by decide) (by omega) (by omega) (by omega) (fun v10_ p10_ => ?_)
    refine wk_aload_n xd_1c1d48a3 rfl ?_
    refine wk_getR xf_ac9a6761 xd_12582561 ?_
    refine wk_iload_n xd_3c82693d rfl ?_
    refine aw_iaload (i := 1) xf_4ab81c3b p8_ (by omega) (by omega) xd_03f25642 ?_
    refine aw_iadd (a := (36 * ((l 3) : Int) + 6 * ((l 2) : Int) : Int)) (b := (((l 1) : Int) : Int)) (e := (36 * ((l 3) : Int) + 6 * ((l 2) : Int) + ((l 1) : Int) : Int)) xd_2021dc62 p10_ (show ((w.1 125 1)).toInt = (((l 1) : Int) : Int) from h1_) (by omega) (by omega) (by omega) (fun v11_ p11_ => ?_)
    refine wk_istore_n xd_58c15b6a (by rw [xm_1cc44445]; rfl) rfl ?_
    refine aw_iinc (a := (1 : Int)) (b := ((-1) : Int)) (e := (0 : Int)) xd_8c55e719 (by rw [xm_1cc44445]; rfl) rfl rfl p8_ (show ((Int32.ofInt (-1))).toInt = (-1) from by decide) (by omega) (by omega) (by omega) (fun v12_ p12_ => ?_)
    refine wk_goto xd_6c97072d (t := 4) rfl ?_
    refine wk_iload_n xd_1f618497 rfl ?_
    refine wk_if xd_c1a100ef (t := 26) rfl (fun h => absurd (aw_lt_t p12_ hb_z h) (by omega)) (fun _ => ?_)
    refine wk_iload_n xd_58241cf2 rfl ?_
    refine wk_bipush xd_72e702d5 ?_
    refine aw_imul (a := (36 * ((l 3) : Int) + 6 * ((l 2) : Int) + ((l 1) : Int) : Int)) (b := (6 : Int)) (e := (216 * ((l 3) : Int) + 36 * ((l 2) : Int) + 6 * ((l 1) : Int) : Int)) xd_e7783404 p11_ (show (((Int8.ofInt 6).toInt32)).toInt = 6 from by decide) (by omega) (by omega) (by omega) (fun v14_ p14_ => ?_)
    refine wk_aload_n xd_1c1d48a3 rfl ?_
    refine wk_getR xf_ac9a6761 xd_12582561 ?_
    refine wk_iload_n xd_3c82693d rfl ?_
    refine aw_iaload (i := 0) xf_4ab81c3b p12_ (by omega) (by omega) xd_03f25642 ?_
    refine aw_iadd (a := (216 * ((l 3) : Int) + 36 * ((l 2) : Int) + 6 * ((l 1) : Int) : Int)) (b := (((l 0) : Int) : Int)) (e := (216 * ((l 3) : Int) + 36 * ((l 2) : Int) + 6 * ((l 1) : Int) + ((l 0) : Int) : Int)) xd_2021dc62 p14_ (show ((w.1 125 0)).toInt = (((l 0) : Int) : Int) from h0_) (by omega) (by omega) (by omega) (fun v15_ p15_ => ?_)
    refine wk_istore_n xd_58c15b6a (by rw [xm_1cc44445]; rfl) rfl ?_
    refine aw_iinc (a := (0 : Int)) (b := ((-1) : Int)) (e := ((-1) : Int)) xd_8c55e719 (by rw [xm_1cc44445]; rfl) rfl rfl p12_ (show ((Int32.ofInt (-1))).toInt = (-1) from by decide) (by omega) (by omega) (by omega) (fun v16_ p16_ => ?_)
    refine wk_goto xd_6c97072d (t := 4) rfl ?_
    refine wk_iload_n xd_1f618497 rfl ?_
    refine wk_if xd_c1a100ef (t := 26) rfl (fun _ => ?_) (fun h => absurd (aw_lt_f p16_ hb_z h) (by omega))
    refine wk_iload_n xd_233cbac5 rfl ?_
    exact wk_ireturn xd_c1f61552 xr_e689e14c rfl ⟨_, rfl, by unfold jCd; rw [p15_]; omega⟩
  obtain ⟨o, hC, x, rfl, a⟩ := h
  exact ⟨x, hC, a⟩
def jSv (t : Int) (p : Int32) (w1 w : cm_W) (i : Nat) : Prop := (∀ j, j < i → (w.1 125 j).toInt = (w1.1 125 j).toInt - t * (hu_n p j).toInt) ∧ (∀ j, i ≤ j → w.1 125 j = w1.1 125 j) ∧ ∀ k j, k ≠ 125 → w.1 k j = w1.1 k j
theorem jsv_p_l (w1 : cm_W) (p t : Int32) (ht : t.toInt = 1) (hb : ∀ f, f < 4 → -1000 ≤ (w1.1 125 f).toInt ∧ (w1.1 125 f).toInt ≤ 1000) (Q : cm_O → Prop) (hk : ∀ w z, jSv 1 p w1 w (4) → sv_w sg w → cm_X (cm_C 1) 226 29 [some (.inr (.inr (some 121))), some (.inl p), some (.inl t), some (.inl z)] [] w Q) : ∀ (n i : Nat) (z : Int32) (w : cm_W), n + i = 4 → z.toInt = (i : Int) → jSv 1 p w1 w (i) → sv_w sg w → cm_X (cm_C 1) 226 2 [some (.inr (.inr (some 121))), some (.inl p), some (.inl t), some (.inl z)] [] w Q := by
  intro n
  induction n with
  | zero =>
    intro i z w hi hz hP hG
    have hbi : i < 4 → -1000 ≤ (w.1 125 i).toInt ∧ (w.1 125 i).toInt ≤ 1000 := fun hi4 => by rw [hP.2.1 i (Nat.le_refl i)]; exact hb i hi4
    refine wk_iload_n xd_28d679ca rfl ?_
    refine wk_iconst xd_dae17101 ?_
    refine wk_icmp xd_03ca3989 (t := 29) rfl (fun h4_0 => ?_) (fun h4_0 => ?_)
    · have h4_0 := aw_ge_t (a := ((i : Int) : Int)) (b := (4 : Int)) hz (show ((Int32.ofInt 4)).toInt = 4 from by decide) h4_0
      exact hk w z (by have e : i = 4 := (by omega); subst e; exact hP) hG
    · have h4_0 := aw_ge_f (a := ((i : Int) : Int)) (b := (4 : Int)) hz (show ((Int32.ofInt 4)).toInt = 4 from by decide) h4_0
      exfalso
      omega
  | succ n ih =>
    intro i z w hi hz hP hG
    have hbi : i < 4 → -1000 ≤ (w.1 125 i).toInt ∧ (w.1 125 i).toInt ≤ 1000 := fun hi4 => by rw [hP.2.1 i (Nat.le_refl i)]; exact hb i hi4
    refine wk_iload_n xd_28d679ca rfl ?_
    refine wk_iconst xd_dae17101 ?_
    refine wk_icmp xd_03ca3989 (t := 29) rfl (fun h4_1 => ?_) (fun h4_1 => ?_)
    · have h4_1 := aw_ge_t (a := ((i : Int) : Int)) (b := (4 : Int)) hz (show ((Int32.ofInt 4)).toInt = 4 from by decide) h4_1
      exfalso
      omega
    · have h4_1 := aw_ge_f (a := ((i : Int) : Int)) (b := (4 : Int)) hz (show ((Int32.ofInt 4)).toInt = 4 from by decide) h4_1
      refine wk_aload_n xd_ae5a9b30 rfl ?_
      refine wk_getR xf_c2167c20 xd_103e3280 ?_
      refine wk_iload_n xd_19d7c362 rfl ?_
      refine wk_dup2 xd_020caac7 ?_
      refine aw_iaload (i := i) xf_4ab81c3b hz (by omega) (by omega) xd_cc3ad83c ?_
      refine wk_iload_n xd_bf98a195 rfl ?_
      refine wk_iload_n xd_634b3191 rfl ?_
      refine wk_iload_n xd_6f6e5bcc rfl ?_
      refine wk_call (kd := 1) (i := 115) xd_a84c4f1a rfl (wk_cal (as := [.inl p, .inl z]) (t := [.inl t, .inl (w.1 125 i), .inl z, .inr (.inr (some 125))]) xl_154ab769 rfl xn_728d196c xc_bffd0008 rfl rfl rfl rfl) (jpo_ok w p hz (by omega)) ?_
      have hn := hu_n_in p i
      refine aw_imul (a := (1 : Int)) (b := ((hu_n p i).toInt : Int)) (e := ((hu_n p i).toInt : Int)) xd_bc54608c ht rfl (by omega) (by omega) (by omega) (fun v3_ p3_ => ?_)
      refine aw_isub (a := ((w.1 125 i).toInt : Int)) (b := ((hu_n p i).toInt : Int)) (e := ((w.1 125 i).toInt + (-1) * (hu_n p i).toInt : Int)) xd_dbd78f9f rfl p3_ (by omega) (by omega) (by omega) (fun v4_ p4_ => ?_)
      refine aw_iastore (i := i) xf_4ab81c3b hz (by omega) (by omega) xd_4e63f1f8 ?_
      have hG5_ : sv_w sg (cm_u1 w 125 i v4_) := sv_w_u1 hG (by rw [aw_tv2 xf_c0d09656]; exact sv_in_top _)
      refine aw_iinc (a := ((i : Int) : Int)) (b := (1 : Int)) (e := ((i : Int) + 1 : Int)) xd_a6b9241f (by rw [xm_bfc0f856]; rfl) rfl rfl hz (show ((Int32.ofInt 1)).toInt = 1 from by decide) (by omega) (by omega) (by omega) (fun v6_ p6_ => ?_)
      refine wk_goto xd_0877080b (t := 2) rfl ?_
      refine ih (i + 1) _ _ (by omega) (by rw [p6_]; omega) ?_ hG5_
      refine ⟨fun j hj => ?_, fun j hj => ?_, fun k j hk => (hs_u1_ne (fun z => hk z.1)).trans (hP.2.2 k j hk)⟩
      · by_cases e : j = i
        · rw [e, hs_u1_self, p4_, hP.2.1 i (Nat.le_refl i)]
          omega
        · rw [hs_u1_ne (by omega)]
          exact hP.1 j (by omega)
      · rw [hs_u1_ne (by omega)]
        exact hP.2.1 j (by omega)
theorem jsv_p {w : cm_W} (p : Int32) {t : Int32} (ht : t.toInt = 1) (hb : ∀ f, f < 4 → -1000 ≤ (w.1 125 f).toInt ∧ (w.1 125 f).toInt ≤ 1000) (hG : sv_w sg w) : ∃ w', cm_C 2 226 [.inr (.inr (some 121)), .inl p, .inl t] w (none, w') ∧ sv_w sg w' ∧ jSv 1 p w w' 4 := by
  have h : ∃ o, cm_C (1 + 1) 226 [.inr (.inr (some 121)), .inl p, .inl t] w o ∧ (fun o : cm_O => ∃ w', o = (none, w') ∧ sv_w sg w' ∧ jSv 1 p w w' 4) o := by
    refine wk_entry (by rw [xm_bfc0f856]; exact Nat.le_of_ble_eq_true rfl) ?_
    rw [show cm_ent 226 [.inr (.inr (some 121)), .inl p, .inl t] = [some (.inr (.inr (some 121))), some (.inl p), some (.inl t), none] from by unfold cm_ent; rw [xm_bfc0f856]; rfl]
    refine wk_iconst xd_16197a81 ?_
    refine wk_istore_n xd_719b4ae1 (by rw [xm_bfc0f856]; rfl) rfl ?_
    refine jsv_p_l w p t ht hb _ (fun w2 z h1 h2 => ?_) 4 0 _ w (by omega) (by decide) ⟨fun j hj => absurd hj (Nat.not_lt_zero j), fun j _ => rfl, fun _ _ _ => rfl⟩ hG
    exact wk_return xd_a5f46b06 xr_e8a60fbd ⟨_, rfl, h2, h1⟩
  obtain ⟨o, hC, w', rfl, a⟩ := h
  exact ⟨w', hC, a⟩
theorem jsv_m_l (w1 : cm_W) (p t : Int32) (ht : t.toInt = -1) (hb : ∀ f, f < 4 → -1000 ≤ (w1.1 125 f).toInt ∧ (w1.1 125 f).toInt ≤ 1000) (Q : cm_O → Prop) (hk : ∀ w z, jSv (-1) p w1 w (4) → sv_w sg w → cm_X (cm_C 1) 226 29 [some (.inr (.inr (some 121))), some (.inl p), some (.inl t), some (.inl z)] [] w Q) : ∀ (n i : Nat) (z : Int32) (w : cm_W), n + i = 4 → z.toInt = (i : Int) → jSv (-1) p w1 w (i) → sv_w sg w → cm_X (cm_C 1) 226 2 [some (.inr (.inr (some 121))), some (.inl p), some (.inl t), some (.inl z)] [] w Q := by
  intro n
  induction n with
  | zero =>
    intro i z w hi hz hP hG
    have hbi : i < 4 → -1000 ≤ (w.1 125 i).toInt ∧ (w.1 125 i).toInt ≤ 1000 := fun hi4 => by rw [hP.2.1 i (Nat.le_refl i)]; exact hb i hi4
    refine wk_iload_n xd_28d679ca rfl ?_
    refine wk_iconst xd_dae17101 ?_
    refine wk_icmp xd_03ca3989 (t := 29) rfl (fun h4_0 => ?_) (fun h4_0 => ?_)
    · have h4_0 := aw_ge_t (a := ((i : Int) : Int)) (b := (4 : Int)) hz (show ((Int32.ofInt 4)).toInt = 4 from by decide) h4_0
      exact hk w z (by have e : i = 4 := (by omega); subst e; exact hP) hG
    · have h4_0 := aw_ge_f (a := ((i : Int) : Int)) (b := (4 : Int)) hz (show ((Int32.ofInt 4)).toInt = 4 from by decide) h4_0
      exfalso
      omega
  | succ n ih =>
    intro i z w hi hz hP hG
    have hbi : i < 4 → -1000 ≤ (w.1 125 i).toInt ∧ (w.1 125 i).toInt ≤ 1000 := fun hi4 => by rw [hP.2.1 i (Nat.le_refl i)]; exact hb i hi4
    refine wk_iload_n xd_28d679ca rfl ?_
    refine wk_iconst xd_dae17101 ?_
    refine wk_icmp xd_03ca3989 (t := 29) rfl (fun h4_1 => ?_) (fun h4_1 => ?_)
    · have h4_1 := aw_ge_t (a := ((i : Int) : Int)) (b := (4 : Int)) hz (show ((Int32.ofInt 4)).toInt = 4 from by decide) h4_1
      exfalso
      omega
    · have h4_1 := aw_ge_f (a := ((i : Int) : Int)) (b := (4 : Int)) hz (show ((Int32.ofInt 4)).toInt = 4 from by decide) h4_1
      refine wk_aload_n xd_ae5a9b30 rfl ?_
      refine wk_getR xf_c2167c20 xd_103e3280 ?_
      refine wk_iload_n xd_19d7c362 rfl ?_
      refine wk_dup2 xd_020caac7 ?_
      refine aw_iaload (i := i) xf_4ab81c3b hz (by omega) (by omega) xd_cc3ad83c ?_
      refine wk_iload_n xd_bf98a195 rfl ?_
      refine wk_iload_n xd_634b3191 rfl ?_
      refine wk_iload_n xd_6f6e5bcc rfl ?_
      refine wk_call (kd := 1) (i := 115) xd_a84c4f1a rfl (wk_cal (as := [.inl p, .inl z]) (t := [.inl t, .inl (w.1 125 i), .inl z, .inr (.inr (some 125))]) xl_154ab769 rfl xn_728d196c xc_bffd0008 rfl rfl rfl rfl) (jpo_ok w p hz (by omega)) ?_
      have hn := hu_n_in p i
      refine aw_imul (a := ((-1) : Int)) (b := ((hu_n p i).toInt : Int)) (e := ((-1) * (hu_n p i).toInt : Int)) xd_bc54608c ht rfl (by omega) (by omega) (by omega) (fun v3_ p3_ => ?_)
      refine aw_isub (a := ((w.1 125 i).toInt : Int)) (b := ((-1) * (hu_n p i).toInt : Int)) (e := ((w.1 125 i).toInt + (hu_n p i).toInt : Int)) xd_dbd78f9f rfl p3_ (by omega) (by omega) (by omega) (fun v4_ p4_ => ?_)
      refine aw_iastore (i := i) xf_4ab81c3b hz (by omega) (by omega) xd_4e63f1f8 ?_
      have hG5_ : sv_w sg (cm_u1 w 125 i v4_) := sv_w_u1 hG (by rw [aw_tv2 xf_c0d09656]; exact sv_in_top _)
      refine aw_iinc (a := ((i : Int) : Int)) (b := (1 : Int)) (e := ((i : Int) + 1 : Int)) xd_a6b9241f (by rw [xm_bfc0f856]; rfl) rfl rfl hz (show ((Int32.ofInt 1)).toInt = 1 from by decide) (by omega) (by omega) (by omega) (fun v6_ p6_ => ?_)
      refine wk_goto xd_0877080b (t := 2) rfl ?_
      refine ih (i + 1) _ _ (by omega) (by rw [p6_]; omega) ?_ hG5_
      refine ⟨fun j hj => ?_, fun j hj => ?_, fun k j hk => (hs_u1_ne (fun z => hk z.1)).trans (hP.2.2 k j hk)⟩
      · by_cases e : j = i
        · rw [e, hs_u1_self, p4_, hP.2.1 i (Nat.le_refl i)]
          omega
        · rw [hs_u1_ne (by omega)]
          exact hP.1 j (by omega)
      · rw [hs_u1_ne (by omega)]
        exact hP.2.1 j (by omega)
theorem jsv_m {w : cm_W} (p : Int32) {t : Int32} (ht : t.toInt = -1) (hb : ∀ f, f < 4 → -1000 ≤ (w.1 125 f).toInt ∧ (w.1 125 f).toInt ≤ 1000) (hG : sv_w sg w) : ∃ w', cm_C 2 226 [.inr (.inr (some 121)), .inl p, .inl t] w (none, w') ∧ sv_w sg w' ∧ jSv (-1) p w w' 4 := by
  have h : ∃ o, cm_C (1 + 1) 226 [.inr (.inr (some 121)), .inl p, .inl t] w o ∧ (fun o : cm_O => ∃ w', o = (none, w') ∧ sv_w sg w' ∧ jSv (-1) p w w' 4) o := by
    refine wk_entry (by rw [xm_bfc0f856]; exact Nat.le_of_ble_eq_true rfl) ?_
    rw [show cm_ent 226 [.inr (.inr (some 121)), .inl p, .inl t] = [some (.inr (.inr (some 121))), some (.inl p), some (.inl t), none] from by unfold cm_ent; rw [xm_bfc0f856]; rfl]
    refine wk_iconst xd_16197a81 ?_
    refine wk_istore_n xd_719b4ae1 (by rw [xm_bfc0f856]; rfl) rfl ?_
    refine jsv_m_l w p t ht hb _ (fun w2 z h1 h2 => ?_) 4 0 _ w (by omega) (by decide) ⟨fun j hj => absurd hj (Nat.not_lt_zero j), fun j _ => rfl, fun _ _ _ => rfl⟩ hG
    exact wk_return xd_a5f46b06 xr_e8a60fbd ⟨_, rfl, h2, h1⟩
  obtain ⟨o, hC, w', rfl, a⟩ := h
  exact ⟨w', hC, a⟩
theorem jct_l {w : cm_W} {q kk mo : Int32} {s k : Nat} {g m : Int} {l : Nat → Nat} (hq : q.toInt = ((s : Int) : Int)) (hk : kk.toInt = ((k : Int) : Int)) (hm : mo.toInt = (m : Int)) (hs : s < 6) (hk35 : k < 35) (hg : (w.1 121 8).toInt = (g : Int)) (hl : jTl w l) (hlf : -1000 ≤ (w.1 126 (1 + s)).toInt ∧ (w.1 126 (1 + s)).toInt ≤ 1000) (hd : (w.1 124 (35 * s + k)).toInt = g) : ∀ (n i : Nat) (z : Int32), n + i = 4 → z.toInt = (i : Int) → (∀ f, f < i → jn k f ≤ l f) → cm_X (cm_C 1) 219 29 [some (.inr (.inr (some 121))), some (.inl q), some (.inl kk), some (.inl mo), some (.inl (cm_pr ia_arA kk)), some (.inl z)] [] w (fun o : cm_O => ∃ x : Int32, o = (some (.inl x), w) ∧ ((x.toInt = 1 ∧ ((w.1 124 (35 * s + k)).toInt = g ∧ (∀ f, f < 4 → jn k f ≤ l f) ∧ jP k + (w.1 126 (s + 1)).toInt ≤ m)) ∨ (x.toInt = 0 ∧ ¬ ((w.1 124 (35 * s + k)).toInt = g ∧ (∀ f, f < 4 → jn k f ≤ l f) ∧ jP k + (w.1 126 (s + 1)).toInt ≤ m)))) := by
  have hkk : kk = Int32.ofNat k := hk_of hk (by omega)
  intro n
  induction n with
  | zero =>
    intro i z hi hz hall
    refine wk_iload xd_dbad9c1e rfl ?_
    refine wk_iconst xd_7115fadf ?_
    refine wk_icmp xd_cfa6c6e1 (t := 60) rfl (fun h32_0 => ?_) (fun h32_0 => ?_)
    · have h32_0 := aw_ge_t (a := ((i : Int) : Int)) (b := (4 : Int)) hz (show ((Int32.ofInt 4)).toInt = 4 from by decide) h32_0
      refine wk_iload xd_0044ac46 rfl ?_
      refine wk_call (kd := 1) (i := 101) xd_f8fbc90a rfl (wk_cal (as := [.inl (cm_pr ia_arA kk)]) (t := []) xl_1687f187 rfl xn_d6e46166 xc_19eec36c rfl rfl rfl rfl) (jpi_ok w (cm_pr ia_arA kk)) ?_
      have hp : (jpi (cm_pr ia_arA kk)).toInt = jP k := by rw [hkk]; rfl
      have hpi := jP_in k
      refine wk_aload_n xd_27b96b10 rfl ?_
      refine wk_getR xf_1694965d xd_96cdbb24 ?_
      refine wk_iload_n xd_403f7378 rfl ?_
      refine wk_iconst xd_ae81b0fc ?_
      refine aw_iadd (a := ((s : Int) : Int)) (b := (1 : Int)) (e := ((s : Int) + 1 : Int)) xd_f8a98a21 hq (show ((Int32.ofInt 1)).toInt = 1 from by decide) (by omega) (by omega) (by omega) (fun v2_ p2_ => ?_)
      refine aw_iaload (i := (1 + s)) xf_79fd7716 p2_ (by omega) (by omega) xd_89985b26 ?_
      refine aw_iadd (a := ((jP k) : Int)) (b := ((w.1 126 (1 + s)).toInt : Int)) (e := ((jP k) + (w.1 126 (1 + s)).toInt : Int)) xd_fd7de1a2 hp rfl (by omega) (by omega) (by omega) (fun v3_ p3_ => ?_)
      refine wk_iload_n xd_204c4d5e rfl ?_
      refine wk_icmp xd_849e2385 (t := 82) rfl (fun h75_3 => ?_) (fun h75_3 => ?_)
      · have h75_3 := aw_gt_t (a := ((jP k) + (w.1 126 (1 + s)).toInt : Int)) (b := (m : Int)) p3_ hm h75_3
        refine wk_iconst xd_cbb18b44 ?_
        exact wk_ireturn xd_f19bec80 xr_6747b5b0 wk_z0 ⟨_, rfl, .inr ⟨by decide, fun h => by have h3 := h.2.2; rw [show s + 1 = 1 + s from by omega] at h3; omega⟩⟩
      · have h75_3 := aw_gt_f (a := ((jP k) + (w.1 126 (1 + s)).toInt : Int)) (b := (m : Int)) p3_ hm h75_3
        refine wk_iconst xd_17c296fc ?_
        refine wk_goto xd_0c9e7561 (t := 83) rfl ?_
        exact wk_ireturn xd_f19bec80 xr_6747b5b0 wk_z1 ⟨_, rfl, .inl ⟨by decide, hd, fun f hf => hall f (by omega), by rw [show s + 1 = 1 + s from by omega]; omega⟩⟩
    · have h32_0 := aw_ge_f (a := ((i : Int) : Int)) (b := (4 : Int)) hz (show ((Int32.ofInt 4)).toInt = 4 from by decide) h32_0
      exfalso
      omega
  | succ n ih =>
    intro i z hi hz hall
    have hli : (w.1 125 i).toInt = ((l i) : Int) := hl i (by omega)
    refine wk_iload xd_dbad9c1e rfl ?_
    refine wk_iconst xd_7115fadf ?_
    refine wk_icmp xd_cfa6c6e1 (t := 60) rfl (fun h32_4 => ?_) (fun h32_4 => ?_)
    · have h32_4 := aw_ge_t (a := ((i : Int) : Int)) (b := (4 : Int)) hz (show ((Int32.ofInt 4)).toInt = 4 from by decide) h32_4
      exfalso
      omega
    · have h32_4 := aw_ge_f (a := ((i : Int) : Int)) (b := (4 : Int)) hz (show ((Int32.ofInt 4)).toInt = 4 from by decide) h32_4
      refine wk_iload xd_c6eedca3 rfl ?_
      refine wk_iload xd_1f4af46e rfl ?_
      refine wk_call (kd := 1) (i := 115) xd_8f88cce3 rfl (wk_cal (as := [.inl (cm_pr ia_arA kk), .inl z]) (t := []) xl_9e75b103 rfl xn_728d196c xc_bffd0008 rfl rfl rfl rfl) (jpo_ok w (cm_pr ia_arA kk) hz (by omega)) ?_
      have hn : (hu_n (cm_pr ia_arA kk) i).toInt = (jn k i : Int) := by rw [hkk]; exact jn_to k i
      refine wk_aload_n xd_883b3fb1 rfl ?_
      refine wk_getR xf_d09feb0b xd_a4cd250b ?_
      refine wk_iload xd_e54949b0 rfl ?_
      refine aw_iaload (i := i) xf_4ab81c3b hz (by omega) (by omega) xd_a59379fb ?_
      refine wk_icmp xd_c3804121 (t := 54) rfl (fun h49_5 => ?_) (fun h49_5 => ?_)
      · have h49_5 := aw_le_t (a := (((jn k i) : Int) : Int)) (b := (((l i) : Int) : Int)) hn (show ((w.1 125 i)).toInt = (((l i) : Int) : Int) from hli) h49_5
        refine aw_iinc (a := ((i : Int) : Int)) (b := (1 : Int)) (e := ((i : Int) + 1 : Int)) xd_e877cc92 (by rw [xm_550a7c05]; rfl) rfl rfl hz (show ((Int32.ofInt 1)).toInt = 1 from by decide) (by omega) (by omega) (by omega) (fun v7_ p7_ => ?_)
        refine wk_goto xd_9c6e2128 (t := 29) rfl ?_
        exact ih (i + 1) _ (by omega) (by rw [p7_]; omega) (fun f hf => by
          by_cases e : f = i
          · rw [e]; omega
          · exact hall f (by omega))
      · have h49_5 := aw_le_f (a := (((jn k i) : Int) : Int)) (b := (((l i) : Int) : Int)) hn (show ((w.1 125 i)).toInt = (((l i) : Int) : Int) from hli) h49_5
        refine wk_iconst xd_50278325 ?_
        exact wk_ireturn xd_03513d40 xr_6747b5b0 wk_z0 ⟨_, rfl, .inr ⟨by decide, fun h => absurd (h.2.1 i (by omega)) (by omega)⟩⟩
theorem jct_ok {w : cm_W} {q kk mo : Int32} {s k : Nat} {g m : Int} {l : Nat → Nat} (hq : q.toInt = ((s : Int) : Int)) (hk : kk.toInt = ((k : Int) : Int)) (hm : mo.toInt = (m : Int)) (hs : s < 6) (hk35 : k < 35) (hg : (w.1 121 8).toInt = (g : Int)) (hl : jTl w l) (hlf : -1000 ≤ (w.1 126 (1 + s)).toInt ∧ (w.1 126 (1 + s)).toInt ≤ 1000) : ∃ x : Int32, cm_C 2 219 [.inr (.inr (some 121)), .inl q, .inl kk, .inl mo] w (some (.inl x), w) ∧ ((x.toInt = 1 ∧ ((w.1 124 (35 * s + k)).toInt = g ∧ (∀ f, f < 4 → jn k f ≤ l f) ∧ jP k + (w.1 126 (s + 1)).toInt ≤ m)) ∨ (x.toInt = 0 ∧ ¬ ((w.1 124 (35 * s + k)).toInt = g ∧ (∀ f, f < 4 → jn k f ≤ l f) ∧ jP k + (w.1 126 (s + 1)).toInt ≤ m))) := by
  have h : ∃ o, cm_C (1 + 1) 219 [.inr (.inr (some 121)), .inl q, .inl kk, .inl mo] w o ∧ (fun o : cm_O => ∃ x : Int32, o = (some (.inl x), w) ∧ ((x.toInt = 1 ∧ ((w.1 124 (35 * s + k)).toInt = g ∧ (∀ f, f < 4 → jn k f ≤ l f) ∧ jP k + (w.1 126 (s + 1)).toInt ≤ m)) ∨ (x.toInt = 0 ∧ ¬ ((w.1 124 (35 * s + k)).toInt = g ∧ (∀ f, f < 4 → jn k f ≤ l f) ∧ jP k + (w.1 126 (s + 1)).toInt ≤ m)))) o := by
    refine wk_entry (by rw [xm_550a7c05]; exact Nat.le_of_ble_eq_true rfl) ?_
    rw [show cm_ent 219 [.inr (.inr (some 121)), .inl q, .inl kk, .inl mo] = [some (.inr (.inr (some 121))), some (.inl q), some (.inl kk), some (.inl mo), none, none] from by unfold cm_ent; rw [xm_550a7c05]; rfl]
    refine wk_aload_n xd_e69d78c7 rfl ?_
    refine wk_getR xf_bf9146c4 xd_72b03b3e ?_
    refine wk_iload_n xd_81a22389 rfl ?_
    refine wk_bipush xd_7e82eebf ?_
    refine aw_imul (a := ((s : Int) : Int)) (b := (35 : Int)) (e := (35 * (s : Int) : Int)) xd_56b5ac37 hq (show (((Int8.ofInt 35).toInt32)).toInt = 35 from by decide) (by omega) (by omega) (by omega) (fun v1_ p1_ => ?_)
    refine wk_iload_n xd_c6e7bbec rfl ?_
    refine aw_iadd (a := (35 * (s : Int) : Int)) (b := ((k : Int) : Int)) (e := (35 * (s : Int) + (k : Int) : Int)) xd_70c24e35 p1_ hk (by omega) (by omega) (by omega) (fun v2_ p2_ => ?_)
    refine aw_iaload (i := (35 * s + k)) xf_59f00e87 p2_ (by omega) (by omega) xd_b56b286c ?_
    refine wk_aload_n xd_16fdfdf4 rfl ?_
    refine wk_getI xf_d1f01619 xd_9fbe482a ?_
    refine wk_icmp xd_ebff5671 (t := 20) rfl (fun h15_2 => ?_) (fun h15_2 => ?_)
    · have h15_2 := aw_eq_t (a := ((w.1 124 (35 * s + k)).toInt : Int)) (b := (g : Int)) rfl (show ((w.1 121 8)).toInt = (g : Int) from hg) h15_2
      have hd : (w.1 124 (35 * s + k)).toInt = g := by omega
      refine wk_iload_n xd_f5533e05 rfl ?_
      refine wk_call (kd := 1) (i := 88) xd_e21d2059 rfl (wk_cal (as := [.inl kk]) (t := []) xl_b1103d50 rfl xn_d2327573 xc_fe717d23 rfl rfl rfl rfl) (jat_ok w kk) ?_
      refine wk_istore xd_e102897b (by rw [xm_550a7c05]; rfl) rfl ?_
      refine wk_iconst xd_7a3f888b ?_
      refine wk_istore xd_e51a0d8b (by rw [xm_550a7c05]; rfl) rfl ?_
      exact jct_l hq hk hm hs hk35 hg hl hlf hd 4 0 _ (by omega) (by decide) (fun f hf => absurd hf (Nat.not_lt_zero f))
    · have h15_2 := aw_eq_f (a := ((w.1 124 (35 * s + k)).toInt : Int)) (b := (g : Int)) rfl (show ((w.1 121 8)).toInt = (g : Int) from hg) h15_2
      refine wk_iconst xd_c768cd36 ?_
      exact wk_ireturn xd_9ec6a64b xr_6747b5b0 wk_z0 ⟨_, rfl, .inr ⟨by decide, fun h => absurd h.1 (by omega)⟩⟩
  obtain ⟨o, hC, x, rfl, a⟩ := h
  exact ⟨x, hC, a⟩

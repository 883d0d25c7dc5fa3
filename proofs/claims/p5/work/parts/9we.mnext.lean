set_option maxRecDepth 100000 in
theorem xd_57d75223 : decode (ia_code 129) 0 = .ok (.aload_n 0, 1) := fdd_d (by decide +kernel)
set_option maxRecDepth 100000 in
theorem xl_07ccde5a : ia_pl (ia_cls 129) 140 = some (1, 136, 0, 0, 1650) := by decide +kernel
set_option maxRecDepth 100000 in
theorem xn_49a33765 : ia_na 136 = 1 := by decide +kernel
set_option maxRecDepth 100000 in
theorem xc_0ce6a16a : ia_mc 136 = 0 ∧ ia_ms 136 = 0 := ⟨by decide +kernel, by decide +kernel⟩
set_option maxRecDepth 100000 in
theorem xv_2f10ad0b : cm_rcv 136 [.inr (.inr (some 184))] = true := by decide +kernel
set_option maxRecDepth 100000 in
theorem xd_dfc5eadb : decode (ia_code 129) 1 = .ok (.invokevirtual 140, 3) := fdd_d (by decide +kernel)
set_option maxRecDepth 100000 in
theorem xd_e69bf29f : decode (ia_code 129) 4 = .ok (.bipush 32, 2) := fdd_d (by decide +kernel)
set_option maxRecDepth 100000 in
theorem xd_e68d17f0 : decode (ia_code 129) 6 = .ok (.if_icmp .eq 12, 3) := fdd_d (by decide +kernel)
set_option maxRecDepth 100000 in
theorem xd_cc1dfbd1 : decode (ia_code 129) 9 = .ok (.aload_n 0, 1) := fdd_d (by decide +kernel)
set_option maxRecDepth 100000 in
theorem xd_9fdb256e : decode (ia_code 129) 10 = .ok (.invokevirtual 140, 3) := fdd_d (by decide +kernel)
set_option maxRecDepth 100000 in
theorem xd_daa5b112 : decode (ia_code 129) 13 = .ok (.bipush 10, 2) := fdd_d (by decide +kernel)
set_option maxRecDepth 100000 in
theorem xd_ae36bf21 : decode (ia_code 129) 15 = .ok (.if_icmp .ne 16, 3) := fdd_d (by decide +kernel)
set_option maxRecDepth 100000 in
theorem xd_2ae1384d : decode (ia_code 129) 18 = .ok (.aload_n 0, 1) := fdd_d (by decide +kernel)
set_option maxRecDepth 100000 in
theorem xd_18407d4b : decode (ia_code 129) 19 = .ok (.dup, 1) := fdd_d (by decide +kernel)
set_option maxRecDepth 100000 in
theorem xd_7637a722 : decode (ia_code 129) 20 = .ok (.getfield 21, 3) := fdd_d (by decide +kernel)
set_option maxRecDepth 100000 in
theorem xf_e747bbb5 : wk_gf 129 21 184 4 0 = true := by decide +kernel
set_option maxRecDepth 100000 in
theorem xd_bd9c7c1f : decode (ia_code 129) 23 = .ok (.iconst 1, 1) := fdd_d (by decide +kernel)
set_option maxRecDepth 100000 in
theorem xd_0c22f669 : decode (ia_code 129) 24 = .ok (.iadd, 1) := fdd_d (by decide +kernel)
set_option maxRecDepth 100000 in
theorem xd_91d0d1ee : decode (ia_code 129) 25 = .ok (.putfield 21, 3) := fdd_d (by decide +kernel)
set_option maxRecDepth 100000 in
theorem xf_a934f3ff : wk_pf 129 21 184 4 0 = true := by decide +kernel
set_option maxRecDepth 100000 in
theorem xd_5082983d : decode (ia_code 129) 28 = .ok (.goto (-28), 3) := fdd_d (by decide +kernel)
set_option maxRecDepth 100000 in
theorem xd_d247f172 : decode (ia_code 129) 222 = .ok (.aload_n 0, 1) := fdd_d (by decide +kernel)
set_option maxRecDepth 100000 in
theorem xd_dc321a32 : decode (ia_code 129) 223 = .ok (.getfield 147, 3) := fdd_d (by decide +kernel)
set_option maxRecDepth 100000 in
theorem xf_20544c99 : wk_gf 129 147 184 13 0 = true := by decide +kernel
set_option maxRecDepth 100000 in
theorem xd_bc9aa125 : decode (ia_code 129) 226 = .ok (.bipush 7, 2) := fdd_d (by decide +kernel)
set_option maxRecDepth 100000 in
theorem xd_26ecb99b : decode (ia_code 129) 228 = .ok (.if_icmp .ge 20, 3) := fdd_d (by decide +kernel)
set_option maxRecDepth 100000 in
theorem xd_8f5533ed : decode (ia_code 129) 248 = .ok (.aload_n 0, 1) := fdd_d (by decide +kernel)
set_option maxRecDepth 100000 in
theorem xd_20082126 : decode (ia_code 129) 249 = .ok (.getfield 147, 3) := fdd_d (by decide +kernel)
set_option maxRecDepth 100000 in
theorem xd_835c5371 : decode (ia_code 129) 252 = .ok (.iconst 3, 1) := fdd_d (by decide +kernel)
set_option maxRecDepth 100000 in
theorem xd_a13b0c89 : decode (ia_code 129) 253 = .ok (.if_icmp .ge 22, 3) := fdd_d (by decide +kernel)
set_option maxRecDepth 100000 in
theorem xd_4cdd92a4 : decode (ia_code 129) 275 = .ok (.aload_n 0, 1) := fdd_d (by decide +kernel)
set_option maxRecDepth 100000 in
theorem xd_106811d1 : decode (ia_code 129) 276 = .ok (.dup, 1) := fdd_d (by decide +kernel)
set_option maxRecDepth 100000 in
theorem xd_f96bfce8 : decode (ia_code 129) 277 = .ok (.getfield 147, 3) := fdd_d (by decide +kernel)
set_option maxRecDepth 100000 in
theorem xd_4c5ac1f0 : decode (ia_code 129) 280 = .ok (.iconst 1, 1) := fdd_d (by decide +kernel)
set_option maxRecDepth 100000 in
theorem xd_eebc71b7 : decode (ia_code 129) 281 = .ok (.iadd, 1) := fdd_d (by decide +kernel)
set_option maxRecDepth 100000 in
theorem xd_7b090509 : decode (ia_code 129) 282 = .ok (.putfield 147, 3) := fdd_d (by decide +kernel)
set_option maxRecDepth 100000 in
theorem xf_52c56cc7 : wk_pf 129 147 184 13 0 = true := by decide +kernel
set_option maxRecDepth 100000 in
theorem xd_afc8996d : decode (ia_code 129) 285 = .ok (.aload_n 0, 1) := fdd_d (by decide +kernel)
set_option maxRecDepth 100000 in
theorem xd_e617b5b9 : decode (ia_code 129) 286 = .ok (.dup, 1) := fdd_d (by decide +kernel)
set_option maxRecDepth 100000 in
theorem xd_0c58cdc5 : decode (ia_code 129) 287 = .ok (.getfield 21, 3) := fdd_d (by decide +kernel)
set_option maxRecDepth 100000 in
theorem xd_d7292b24 : decode (ia_code 129) 290 = .ok (.iconst 1, 1) := fdd_d (by decide +kernel)
set_option maxRecDepth 100000 in
theorem xd_395ef1ef : decode (ia_code 129) 291 = .ok (.iadd, 1) := fdd_d (by decide +kernel)
set_option maxRecDepth 100000 in
theorem xd_0ca21d9e : decode (ia_code 129) 292 = .ok (.putfield 21, 3) := fdd_d (by decide +kernel)
set_option maxRecDepth 100000 in
theorem xd_61b344bd : decode (ia_code 129) 295 = .ok (.goto (-114), 3) := fdd_d (by decide +kernel)
set_option maxRecDepth 100000 in
theorem xd_e3036796 : decode (ia_code 129) 256 = .ok (.aload_n 0, 1) := fdd_d (by decide +kernel)
set_option maxRecDepth 100000 in
theorem xd_fe687e06 : decode (ia_code 129) 257 = .ok (.bipush 10, 2) := fdd_d (by decide +kernel)
set_option maxRecDepth 100000 in
theorem xd_9503bc1e : decode (ia_code 129) 259 = .ok (.aload_n 0, 1) := fdd_d (by decide +kernel)
set_option maxRecDepth 100000 in
theorem xd_b0cce194 : decode (ia_code 129) 260 = .ok (.getfield 160, 3) := fdd_d (by decide +kernel)
set_option maxRecDepth 100000 in
theorem xf_e7ce4028 : wk_gf 129 160 184 14 0 = true := by decide +kernel
set_option maxRecDepth 100000 in
theorem xd_404ffc29 : decode (ia_code 129) 263 = .ok (.imul, 1) := fdd_d (by decide +kernel)
set_option maxRecDepth 100000 in
theorem xd_568b1d57 : decode (ia_code 129) 264 = .ok (.aload_n 0, 1) := fdd_d (by decide +kernel)
set_option maxRecDepth 100000 in
theorem xd_03b0911d : decode (ia_code 129) 265 = .ok (.invokevirtual 140, 3) := fdd_d (by decide +kernel)
set_option maxRecDepth 100000 in
theorem xd_82c27fcc : decode (ia_code 129) 268 = .ok (.iadd, 1) := fdd_d (by decide +kernel)
set_option maxRecDepth 100000 in
theorem xd_2bb83c00 : decode (ia_code 129) 269 = .ok (.bipush 48, 2) := fdd_d (by decide +kernel)
set_option maxRecDepth 100000 in
theorem xd_1aa84e00 : decode (ia_code 129) 271 = .ok (.isub, 1) := fdd_d (by decide +kernel)
set_option maxRecDepth 100000 in
theorem xd_94b6e81e : decode (ia_code 129) 272 = .ok (.putfield 160, 3) := fdd_d (by decide +kernel)
set_option maxRecDepth 100000 in
theorem xf_955f6076 : wk_pf 129 160 184 14 0 = true := by decide +kernel
set_option maxRecDepth 100000 in
theorem xd_2587ad68 : decode (ia_code 129) 231 = .ok (.aload_n 0, 1) := fdd_d (by decide +kernel)
set_option maxRecDepth 100000 in
theorem xd_53629455 : decode (ia_code 129) 232 = .ok (.aload_n 0, 1) := fdd_d (by decide +kernel)
set_option maxRecDepth 100000 in
theorem xd_0af606b8 : decode (ia_code 129) 233 = .ok (.getfield 163, 3) := fdd_d (by decide +kernel)
set_option maxRecDepth 100000 in
theorem xf_93c9a031 : wk_gf 129 163 184 17 1 = true := by decide +kernel
set_option maxRecDepth 100000 in
theorem xd_a5b9dc20 : decode (ia_code 129) 236 = .ok (.bipush 8, 2) := fdd_d (by decide +kernel)
set_option maxRecDepth 100000 in
theorem xd_435bfa4f : decode (ia_code 129) 238 = .ok (.lshl, 1) := fdd_d (by decide +kernel)
set_option maxRecDepth 100000 in
theorem xd_253eee4e : decode (ia_code 129) 239 = .ok (.aload_n 0, 1) := fdd_d (by decide +kernel)
set_option maxRecDepth 100000 in
theorem xd_0e0dd79d : decode (ia_code 129) 240 = .ok (.invokevirtual 140, 3) := fdd_d (by decide +kernel)
set_option maxRecDepth 100000 in
theorem xd_d8da01a8 : decode (ia_code 129) 243 = .ok (.i2l, 1) := fdd_d (by decide +kernel)
set_option maxRecDepth 100000 in
theorem xd_c5b0608e : decode (ia_code 129) 244 = .ok (.lor, 1) := fdd_d (by decide +kernel)
set_option maxRecDepth 100000 in
theorem xd_b841c42b : decode (ia_code 129) 245 = .ok (.putfield 163, 3) := fdd_d (by decide +kernel)
set_option maxRecDepth 100000 in
theorem xf_d434a2b6 : aw_pl 129 163 184 17 2 = true := by decide +kernel
set_option maxRecDepth 100000 in
theorem xd_9a798ead : decode (ia_code 129) 181 = .ok (.aload_n 0, 1) := fdd_d (by decide +kernel)
set_option maxRecDepth 100000 in
theorem xd_da4b9954 : decode (ia_code 129) 182 = .ok (.invokevirtual 140, 3) := fdd_d (by decide +kernel)
set_option maxRecDepth 100000 in
theorem xl_ea921303 : ia_pl (ia_cls 129) 153 = some (1, 268, 1, 0, 1654) := by decide +kernel
set_option maxRecDepth 100000 in
theorem xn_97b6022a : ia_na 268 = 1 := by decide +kernel
set_option maxRecDepth 100000 in
theorem xc_e24ee852 : ia_mc 268 = 0 ∧ ia_ms 268 = 0 := ⟨by decide +kernel, by decide +kernel⟩
set_option maxRecDepth 100000 in
theorem xd_9771f40c : decode (ia_code 129) 185 = .ok (.invokestatic 153, 3) := fdd_d (by decide +kernel)
set_option maxRecDepth 100000 in
theorem xd_24befb65 : decode (ia_code 129) 188 = .ok (.ifCond .ne 13, 3) := fdd_d (by decide +kernel)
set_option maxRecDepth 100000 in
theorem xd_603aadfd : decode (ia_code 129) 201 = .ok (.iload_n 3, 1) := fdd_d (by decide +kernel)
set_option maxRecDepth 100000 in
theorem xd_9ef708f4 : decode (ia_code 129) 202 = .ok (.ifCond .eq 18, 3) := fdd_d (by decide +kernel)
set_option maxRecDepth 100000 in
theorem xd_9c15788f : decode (ia_code 129) 220 = .ok (.iconst 0, 1) := fdd_d (by decide +kernel)
set_option maxRecDepth 100000 in
theorem xd_01168c4f : decode (ia_code 129) 221 = .ok (.istore_n 3, 1) := fdd_d (by decide +kernel)
set_option maxRecDepth 100000 in
theorem xm_0c78751a : ia_maxL 129 = 4 := by decide +kernel
set_option maxRecDepth 100000 in
theorem xd_7dc5a5d3 : decode (ia_code 129) 205 = .ok (.aload_n 0, 1) := fdd_d (by decide +kernel)
set_option maxRecDepth 100000 in
theorem xd_59d7bf51 : decode (ia_code 129) 206 = .ok (.invokevirtual 140, 3) := fdd_d (by decide +kernel)
set_option maxRecDepth 100000 in
theorem xd_e0a4281a : decode (ia_code 129) 209 = .ok (.invokestatic 153, 3) := fdd_d (by decide +kernel)
set_option maxRecDepth 100000 in
theorem xd_aa9ad857 : decode (ia_code 129) 212 = .ok (.iload_n 2, 1) := fdd_d (by decide +kernel)
set_option maxRecDepth 100000 in
theorem xd_11dc86a1 : decode (ia_code 129) 213 = .ok (.if_icmp .ne 7, 3) := fdd_d (by decide +kernel)
set_option maxRecDepth 100000 in
theorem xd_a5613282 : decode (ia_code 129) 216 = .ok (.iconst 1, 1) := fdd_d (by decide +kernel)
set_option maxRecDepth 100000 in
theorem xd_a23aa4f3 : decode (ia_code 129) 217 = .ok (.goto 4, 3) := fdd_d (by decide +kernel)
set_option maxRecDepth 100000 in
theorem xd_1b5ceb8a : decode (ia_code 129) 191 = .ok (.aload_n 0, 1) := fdd_d (by decide +kernel)
set_option maxRecDepth 100000 in
theorem xd_2b919cfe : decode (ia_code 129) 192 = .ok (.invokevirtual 140, 3) := fdd_d (by decide +kernel)
set_option maxRecDepth 100000 in
theorem xl_87ac4868 : ia_pl (ia_cls 129) 157 = some (1, 258, 1, 0, 1657) := by decide +kernel
set_option maxRecDepth 100000 in
theorem xn_11227084 : ia_na 258 = 1 := by decide +kernel
set_option maxRecDepth 100000 in
theorem xc_3cc433d4 : ia_mc 258 = 0 ∧ ia_ms 258 = 0 := ⟨by decide +kernel, by decide +kernel⟩
set_option maxRecDepth 100000 in
theorem xd_6c16ba1d : decode (ia_code 129) 195 = .ok (.invokestatic 157, 3) := fdd_d (by decide +kernel)
set_option maxRecDepth 100000 in
theorem xd_00983d04 : decode (ia_code 129) 198 = .ok (.ifCond .eq 100, 3) := fdd_d (by decide +kernel)
set_option maxRecDepth 100000 in
theorem xd_68105db0 : decode (ia_code 129) 31 = .ok (.aload_n 0, 1) := fdd_d (by decide +kernel)
set_option maxRecDepth 100000 in
theorem xd_1ef5648d : decode (ia_code 129) 32 = .ok (.aload_n 0, 1) := fdd_d (by decide +kernel)
set_option maxRecDepth 100000 in
theorem xd_a4c7b7e6 : decode (ia_code 129) 33 = .ok (.getfield 21, 3) := fdd_d (by decide +kernel)
set_option maxRecDepth 100000 in
theorem xd_9e6691d1 : decode (ia_code 129) 36 = .ok (.putfield 144, 3) := fdd_d (by decide +kernel)
set_option maxRecDepth 100000 in
theorem xf_ee9d5c7d : wk_pf 129 144 184 12 0 = true := by decide +kernel
set_option maxRecDepth 100000 in
theorem xd_68a91e96 : decode (ia_code 129) 39 = .ok (.aload_n 0, 1) := fdd_d (by decide +kernel)
set_option maxRecDepth 100000 in
theorem xd_544e8a95 : decode (ia_code 129) 40 = .ok (.iconst 0, 1) := fdd_d (by decide +kernel)
set_option maxRecDepth 100000 in
theorem xd_d3d0d6a1 : decode (ia_code 129) 41 = .ok (.putfield 147, 3) := fdd_d (by decide +kernel)
set_option maxRecDepth 100000 in
theorem xd_c2272180 : decode (ia_code 129) 44 = .ok (.aload_n 0, 1) := fdd_d (by decide +kernel)
set_option maxRecDepth 100000 in
theorem xd_9c5bb0b9 : decode (ia_code 129) 45 = .ok (.getfield 18, 3) := fdd_d (by decide +kernel)
set_option maxRecDepth 100000 in
theorem xf_8b7af596 : wk_gf 129 18 184 3 0 = true := by decide +kernel
set_option maxRecDepth 100000 in
theorem xd_c2c2c335 : decode (ia_code 129) 48 = .ok (.aload_n 0, 1) := fdd_d (by decide +kernel)
set_option maxRecDepth 100000 in
theorem xd_0889f65a : decode (ia_code 129) 49 = .ok (.getfield 24, 3) := fdd_d (by decide +kernel)
set_option maxRecDepth 100000 in
theorem xf_72dc0d9d : wk_gf 129 24 184 5 0 = true := by decide +kernel
set_option maxRecDepth 100000 in
theorem xd_ea03caea : decode (ia_code 129) 52 = .ok (.if_icmp .le 28, 3) := fdd_d (by decide +kernel)
set_option maxRecDepth 100000 in
theorem xd_797022f2 : decode (ia_code 129) 80 = .ok (.aload_n 0, 1) := fdd_d (by decide +kernel)
set_option maxRecDepth 100000 in
theorem xd_83f2fc41 : decode (ia_code 129) 81 = .ok (.invokevirtual 140, 3) := fdd_d (by decide +kernel)
set_option maxRecDepth 100000 in
theorem xd_a7dd5cab : decode (ia_code 129) 84 = .ok (.istore_n 1, 1) := fdd_d (by decide +kernel)
set_option maxRecDepth 100000 in
theorem xd_853c9368 : decode (ia_code 129) 85 = .ok (.iload_n 1, 1) := fdd_d (by decide +kernel)
set_option maxRecDepth 100000 in
theorem xd_268491e6 : decode (ia_code 129) 86 = .ok (.ifCond .ge 9, 3) := fdd_d (by decide +kernel)
set_option maxRecDepth 100000 in
theorem xd_0419f64f : decode (ia_code 129) 95 = .ok (.iload_n 1, 1) := fdd_d (by decide +kernel)
set_option maxRecDepth 100000 in
theorem xd_93ce1ea1 : decode (ia_code 129) 96 = .ok (.invokestatic 153, 3) := fdd_d (by decide +kernel)
set_option maxRecDepth 100000 in
theorem xd_1c83701b : decode (ia_code 129) 99 = .ok (.ifCond .ne 65, 3) := fdd_d (by decide +kernel)
set_option maxRecDepth 100000 in
theorem xd_040551d9 : decode (ia_code 129) 164 = .ok (.iload_n 1, 1) := fdd_d (by decide +kernel)
set_option maxRecDepth 100000 in
theorem xd_c61ec062 : decode (ia_code 129) 165 = .ok (.invokestatic 153, 3) := fdd_d (by decide +kernel)
set_option maxRecDepth 100000 in
theorem xd_66b45b65 : decode (ia_code 129) 168 = .ok (.istore_n 2, 1) := fdd_d (by decide +kernel)
set_option maxRecDepth 100000 in
theorem xd_575c1b44 : decode (ia_code 129) 169 = .ok (.iconst 1, 1) := fdd_d (by decide +kernel)
set_option maxRecDepth 100000 in
theorem xd_2c52de65 : decode (ia_code 129) 170 = .ok (.istore_n 3, 1) := fdd_d (by decide +kernel)
set_option maxRecDepth 100000 in
theorem xd_796c8564 : decode (ia_code 129) 171 = .ok (.aload_n 0, 1) := fdd_d (by decide +kernel)
set_option maxRecDepth 100000 in
theorem xd_e9d72470 : decode (ia_code 129) 172 = .ok (.lconst 0, 1) := fdd_d (by decide +kernel)
set_option maxRecDepth 100000 in
theorem xd_36d5337e : decode (ia_code 129) 173 = .ok (.putfield 163, 3) := fdd_d (by decide +kernel)
set_option maxRecDepth 100000 in
theorem xd_0fd51dca : decode (ia_code 129) 176 = .ok (.aload_n 0, 1) := fdd_d (by decide +kernel)
set_option maxRecDepth 100000 in
theorem xd_3afda4a0 : decode (ia_code 129) 177 = .ok (.iconst 0, 1) := fdd_d (by decide +kernel)
set_option maxRecDepth 100000 in
theorem xd_d60b89ea : decode (ia_code 129) 178 = .ok (.putfield 160, 3) := fdd_d (by decide +kernel)
set_option maxRecDepth 100000 in
theorem xd_59f271f3 : decode (ia_code 129) 102 = .ok (.iload_n 1, 1) := fdd_d (by decide +kernel)
set_option maxRecDepth 100000 in
theorem xd_9c8c5e74 : decode (ia_code 129) 103 = .ok (.invokestatic 157, 3) := fdd_d (by decide +kernel)
set_option maxRecDepth 100000 in
theorem xd_bb8bebc7 : decode (ia_code 129) 106 = .ok (.ifCond .ne 58, 3) := fdd_d (by decide +kernel)
set_option maxRecDepth 100000 in
theorem xd_48cdf135 : decode (ia_code 129) 109 = .ok (.aload_n 0, 1) := fdd_d (by decide +kernel)
set_option maxRecDepth 100000 in
theorem xd_3541c73d : decode (ia_code 129) 110 = .ok (.iload_n 1, 1) := fdd_d (by decide +kernel)
set_option maxRecDepth 100000 in
theorem xd_d9c80417 : decode (ia_code 129) 111 = .ok (.bipush 59, 2) := fdd_d (by decide +kernel)
set_option maxRecDepth 100000 in
theorem xd_ac13d367 : decode (ia_code 129) 113 = .ok (.if_icmp .eq 27, 3) := fdd_d (by decide +kernel)
set_option maxRecDepth 100000 in
theorem xd_6e61d90d : decode (ia_code 129) 140 = .ok (.iconst 3, 1) := fdd_d (by decide +kernel)
set_option maxRecDepth 100000 in
theorem xd_92421343 : decode (ia_code 129) 141 = .ok (.goto 4, 3) := fdd_d (by decide +kernel)
set_option maxRecDepth 100000 in
theorem xd_7babcb72 : decode (ia_code 129) 145 = .ok (.putfield 150, 3) := fdd_d (by decide +kernel)
set_option maxRecDepth 100000 in
theorem xf_99f07650 : wk_pf 129 150 184 11 0 = true := by decide +kernel
set_option maxRecDepth 100000 in
theorem xd_bab885be : decode (ia_code 129) 148 = .ok (.aload_n 0, 1) := fdd_d (by decide +kernel)
set_option maxRecDepth 100000 in
theorem xd_46a895b7 : decode (ia_code 129) 149 = .ok (.iload_n 1, 1) := fdd_d (by decide +kernel)
set_option maxRecDepth 100000 in
theorem xd_5e3a92d4 : decode (ia_code 129) 150 = .ok (.putfield 160, 3) := fdd_d (by decide +kernel)
set_option maxRecDepth 100000 in
theorem xd_4dc19a82 : decode (ia_code 129) 153 = .ok (.aload_n 0, 1) := fdd_d (by decide +kernel)
set_option maxRecDepth 100000 in
theorem xd_62d66c3c : decode (ia_code 129) 154 = .ok (.dup, 1) := fdd_d (by decide +kernel)
set_option maxRecDepth 100000 in
theorem xd_b70adbae : decode (ia_code 129) 155 = .ok (.getfield 21, 3) := fdd_d (by decide +kernel)
set_option maxRecDepth 100000 in
theorem xd_369146b9 : decode (ia_code 129) 158 = .ok (.iconst 1, 1) := fdd_d (by decide +kernel)
set_option maxRecDepth 100000 in
theorem xd_616f024e : decode (ia_code 129) 159 = .ok (.iadd, 1) := fdd_d (by decide +kernel)
set_option maxRecDepth 100000 in
theorem xd_a2ba409a : decode (ia_code 129) 160 = .ok (.putfield 21, 3) := fdd_d (by decide +kernel)
set_option maxRecDepth 100000 in
theorem xd_e11b4b5e : decode (ia_code 129) 163 = .ok (.return_, 1) := fdd_d (by decide +kernel)
set_option maxRecDepth 100000 in
theorem xr_dab1a612 : ia_ret 129 = none := by decide +kernel
set_option maxRecDepth 100000 in
theorem xd_d88bb547 : decode (ia_code 129) 116 = .ok (.iload_n 1, 1) := fdd_d (by decide +kernel)
set_option maxRecDepth 100000 in
theorem xd_f24ec7b9 : decode (ia_code 129) 117 = .ok (.bipush 40, 2) := fdd_d (by decide +kernel)
set_option maxRecDepth 100000 in
theorem xd_2d973415 : decode (ia_code 129) 119 = .ok (.if_icmp .eq 21, 3) := fdd_d (by decide +kernel)
set_option maxRecDepth 100000 in
theorem xd_80c9bdfc : decode (ia_code 129) 122 = .ok (.iload_n 1, 1) := fdd_d (by decide +kernel)
set_option maxRecDepth 100000 in
theorem xd_976ce6b2 : decode (ia_code 129) 123 = .ok (.bipush 41, 2) := fdd_d (by decide +kernel)
set_option maxRecDepth 100000 in
theorem xd_f0f3978b : decode (ia_code 129) 125 = .ok (.if_icmp .eq 15, 3) := fdd_d (by decide +kernel)
set_option maxRecDepth 100000 in
theorem xd_6de62d33 : decode (ia_code 129) 128 = .ok (.iload_n 1, 1) := fdd_d (by decide +kernel)
set_option maxRecDepth 100000 in
theorem xd_0aebfec6 : decode (ia_code 129) 129 = .ok (.bipush 60, 2) := fdd_d (by decide +kernel)
set_option maxRecDepth 100000 in
theorem xd_fe20f744 : decode (ia_code 129) 131 = .ok (.if_icmp .lt 13, 3) := fdd_d (by decide +kernel)
set_option maxRecDepth 100000 in
theorem xd_80e0961d : decode (ia_code 129) 144 = .ok (.iconst 4, 1) := fdd_d (by decide +kernel)
set_option maxRecDepth 100000 in
theorem xd_ec26aaa1 : decode (ia_code 129) 134 = .ok (.iload_n 1, 1) := fdd_d (by decide +kernel)
set_option maxRecDepth 100000 in
theorem xd_f1eb2a34 : decode (ia_code 129) 135 = .ok (.bipush 62, 2) := fdd_d (by decide +kernel)
set_option maxRecDepth 100000 in
theorem xd_0818f0e3 : decode (ia_code 129) 137 = .ok (.if_icmp .gt 7, 3) := fdd_d (by decide +kernel)
set_option maxRecDepth 100000 in
theorem xd_e2ba8b00 : decode (ia_code 129) 89 = .ok (.aload_n 0, 1) := fdd_d (by decide +kernel)
set_option maxRecDepth 100000 in
theorem xd_cfd882f4 : decode (ia_code 129) 90 = .ok (.iconst 0, 1) := fdd_d (by decide +kernel)
set_option maxRecDepth 100000 in
theorem xd_67e37f9a : decode (ia_code 129) 91 = .ok (.putfield 150, 3) := fdd_d (by decide +kernel)
set_option maxRecDepth 100000 in
theorem xd_dcd12cc9 : decode (ia_code 129) 94 = .ok (.return_, 1) := fdd_d (by decide +kernel)
set_option maxRecDepth 100000 in
theorem xd_d871ae73 : decode (ia_code 129) 55 = .ok (.aload_n 0, 1) := fdd_d (by decide +kernel)
set_option maxRecDepth 100000 in
theorem xd_c52fb0a2 : decode (ia_code 129) 56 = .ok (.getfield 21, 3) := fdd_d (by decide +kernel)
set_option maxRecDepth 100000 in
theorem xd_d8944cc6 : decode (ia_code 129) 59 = .ok (.aload_n 0, 1) := fdd_d (by decide +kernel)
set_option maxRecDepth 100000 in
theorem xd_9443be8c : decode (ia_code 129) 60 = .ok (.getfield 24, 3) := fdd_d (by decide +kernel)
set_option maxRecDepth 100000 in
theorem xd_fa6b8851 : decode (ia_code 129) 63 = .ok (.if_icmp .lt 17, 3) := fdd_d (by decide +kernel)
set_option maxRecDepth 100000 in
theorem xd_f68a3e66 : decode (ia_code 129) 66 = .ok (.aload_n 0, 1) := fdd_d (by decide +kernel)
set_option maxRecDepth 100000 in
theorem xd_6df9d4b2 : decode (ia_code 129) 67 = .ok (.aload_n 0, 1) := fdd_d (by decide +kernel)
set_option maxRecDepth 100000 in
theorem xd_b8482d3b : decode (ia_code 129) 68 = .ok (.getfield 24, 3) := fdd_d (by decide +kernel)
set_option maxRecDepth 100000 in
theorem xd_27e481b2 : decode (ia_code 129) 71 = .ok (.putfield 144, 3) := fdd_d (by decide +kernel)
set_option maxRecDepth 100000 in
theorem xd_9a3988a8 : decode (ia_code 129) 74 = .ok (.aload_n 0, 1) := fdd_d (by decide +kernel)
set_option maxRecDepth 100000 in
theorem xd_9ca2e2a8 : decode (ia_code 129) 75 = .ok (.iconst 4, 1) := fdd_d (by decide +kernel)
set_option maxRecDepth 100000 in
theorem xd_c1fb8ff1 : decode (ia_code 129) 76 = .ok (.putfield 150, 3) := fdd_d (by decide +kernel)
set_option maxRecDepth 100000 in
theorem xd_bfb2de1a : decode (ia_code 129) 79 = .ok (.return_, 1) := fdd_d (by decide +kernel)
set_option maxRecDepth 100000 in
theorem xd_b57bf42b : decode (ia_code 129) 298 = .ok (.aload_n 0, 1) := fdd_d (by decide +kernel)
set_option maxRecDepth 100000 in
theorem xd_33abb742 : decode (ia_code 129) 299 = .ok (.iload_n 3, 1) := fdd_d (by decide +kernel)
set_option maxRecDepth 100000 in
theorem xd_960cde3d : decode (ia_code 129) 300 = .ok (.ifCond .eq 20, 3) := fdd_d (by decide +kernel)
set_option maxRecDepth 100000 in
theorem xd_e8b0bb68 : decode (ia_code 129) 320 = .ok (.iconst 4, 1) := fdd_d (by decide +kernel)
set_option maxRecDepth 100000 in
theorem xd_8b164cab : decode (ia_code 129) 321 = .ok (.goto 12, 3) := fdd_d (by decide +kernel)
set_option maxRecDepth 100000 in
theorem xd_95cbaa7f : decode (ia_code 129) 333 = .ok (.putfield 150, 3) := fdd_d (by decide +kernel)
set_option maxRecDepth 100000 in
theorem xd_ca27e852 : decode (ia_code 129) 336 = .ok (.return_, 1) := fdd_d (by decide +kernel)
set_option maxRecDepth 100000 in
theorem xd_358447a7 : decode (ia_code 129) 303 = .ok (.aload_n 0, 1) := fdd_d (by decide +kernel)
set_option maxRecDepth 100000 in
theorem xd_d85caa8b : decode (ia_code 129) 304 = .ok (.getfield 147, 3) := fdd_d (by decide +kernel)
set_option maxRecDepth 100000 in
theorem xd_151b6639 : decode (ia_code 129) 307 = .ok (.iload_n 2, 1) := fdd_d (by decide +kernel)
set_option maxRecDepth 100000 in
theorem xd_9add5ff3 : decode (ia_code 129) 308 = .ok (.ifCond .eq 8, 3) := fdd_d (by decide +kernel)
set_option maxRecDepth 100000 in
theorem xd_5e8404c5 : decode (ia_code 129) 316 = .ok (.iconst 3, 1) := fdd_d (by decide +kernel)
set_option maxRecDepth 100000 in
theorem xd_51bf33bd : decode (ia_code 129) 317 = .ok (.if_icmp .le 7, 3) := fdd_d (by decide +kernel)
set_option maxRecDepth 100000 in
theorem xd_bac5930b : decode (ia_code 129) 324 = .ok (.iload_n 2, 1) := fdd_d (by decide +kernel)
set_option maxRecDepth 100000 in
theorem xd_5d35e355 : decode (ia_code 129) 325 = .ok (.ifCond .eq 7, 3) := fdd_d (by decide +kernel)
set_option maxRecDepth 100000 in
theorem xd_d2d36d9c : decode (ia_code 129) 332 = .ok (.iconst 2, 1) := fdd_d (by decide +kernel)
set_option maxRecDepth 100000 in
theorem xd_99131218 : decode (ia_code 129) 328 = .ok (.iconst 1, 1) := fdd_d (by decide +kernel)
set_option maxRecDepth 100000 in
theorem xd_d7f409b7 : decode (ia_code 129) 329 = .ok (.goto 4, 3) := fdd_d (by decide +kernel)
set_option maxRecDepth 100000 in
theorem xd_2e83c37f : decode (ia_code 129) 311 = .ok (.bipush 7, 2) := fdd_d (by decide +kernel)
set_option maxRecDepth 100000 in
theorem xd_fbff2b6a : decode (ia_code 129) 313 = .ok (.goto 4, 3) := fdd_d (by decide +kernel)
/-! ## the reference's reader: next (wip/p4/gen9ve.py) -/
theorem rm_b_c (T : Nat → Int) (n q : Nat) : (q < n ∧ rm_b T n q = T q) ∨ (n ≤ q ∧ rm_b T n q = -1) := by
  unfold rm_b
  by_cases h : q < n
  · rw [if_pos h]
    exact .inl ⟨h, rfl⟩
  · rw [if_neg h]
    exact .inr ⟨by omega, rfl⟩
theorem tx_ct_pos {T : Nat → Int} {b : Nat} (h : tx_Sm (T (b + 0))) : ∀ k, 1 ≤ k → 1 ≤ tx_ct T b k
  | 0, hk => absurd hk (by omega)
  | 1, _ => by
    rw [tx_ct_s h]
    omega
  | k + 2, _ => by
    have h1 := tx_ct_pos h (k + 1) (by omega)
    by_cases hs : tx_Sm (T (b + (k + 1)))
    · rw [tx_ct_s hs]
      omega
    · rw [tx_ct_n hs]
      exact h1
theorem tx_ct_ltk {T : Nat → Int} {b : Nat} (h : ¬ tx_Sm (T (b + 0))) : ∀ k, 1 ≤ k → tx_ct T b k < k
  | 0, hk => absurd hk (by omega)
  | 1, _ => by
    rw [tx_ct_n h]
    exact Nat.zero_lt_one
  | k + 2, _ => by
    have h1 := tx_ct_ltk h (k + 1) (by omega)
    by_cases hs : tx_Sm (T (b + (k + 1)))
    · rw [tx_ct_s hs]
      omega
    · rw [tx_ct_n hs]
      omega
theorem tx_wshl {a : Nat} {c : Int} {x : Int32} (ha : a < 2 ^ 48) (hx : x.toInt = c) (h0 : 0 ≤ c) (h1 : c ≤ 255) : (Int64.ofNat a <<< (((Int8.ofInt 8).toInt32).toInt64 &&& 63)) ||| x.toInt64 = Int64.ofNat (a * 256 + c.toNat) := by
  have e8 : ((Int8.ofInt 8).toInt32).toInt64 &&& 63 = 8 := by decide
  have ex : x.toInt64 = Int64.ofNat c.toNat := by
    apply Int64.toInt_inj.mp
    rw [Int32.toInt_toInt64, hx, Int64.toInt_ofNat_of_lt (by omega)]
    omega
  rw [e8, ex]
  apply Int64.toBitVec_inj.mp
  rw [Int64.toBitVec_or, Int64.toBitVec_shiftLeft, show ((8 : Int64).toBitVec.smod 64) = 8#64 from by decide]
  apply BitVec.eq_of_toNat_eq
  have f1 : ∀ z : Nat, z < 2 ^ 64 → (Int64.ofNat z).toBitVec.toNat = z := fun z hz => Nat.mod_eq_of_lt hz
  rw [BitVec.toNat_or, BitVec.shiftLeft_eq', BitVec.toNat_shiftLeft, f1 a (by omega), f1 c.toNat (by omega), f1 (a * 256 + c.toNat) (by omega)]
  rw [show (8#64).toNat = 8 from rfl, Nat.shiftLeft_eq, Nat.mod_eq_of_lt (by omega), ← Nat.shiftLeft_eq, ← Nat.shiftLeft_add_eq_or_of_lt (by omega) a, Nat.shiftLeft_eq]
theorem tx_F_lt {T : Nat → Int} {b k : Nat} (hk : k < 7) (h : ∀ j, j < k → tx_Sm (T (b + j))) : tx_F (tx_cd T b k) < 2 ^ 48 := by
  have h1 := tx_cd_lt (T := T) (s := b) k h
  have q6 : tx_cd T b k < 32 ^ 6 := Nat.lt_of_lt_of_le h1 (Nat.pow_le_pow_right (by decide) (by omega))
  rw [show tx_F (tx_cd T b k) = tx_f 6 (tx_cd T b k) from tx_f_up 6 _ q6]
  exact tx_f_lt 6 _
theorem tx_nstep2 {a c : Int} {x : Int32} (hc : x.toInt = c) : Int32.ofInt 10 * Int32.ofInt a + x - Int32.ofInt 48 = Int32.ofInt (a * 10 + (c - 48)) := by
  rw [Int32.ofInt_add, Int32.ofInt_mul, Int32.ofInt_sub, ← hc, Int32.ofInt_toInt, Int32.mul_comm (Int32.ofInt 10), Int32.sub_eq_add_neg, Int32.sub_eq_add_neg, Int32.add_assoc]
theorem mn_skip {w0 : cm_W} {T : Nat → Int} {n m p : Nat} (hT : rm_T w0 T n m) (Q : cm_O → Prop) (hk : ∀ (w : cm_W) (q : Nat), ((w.1 184 4).toInt = (q : Int) ∧ rm_S w0 w ∧ p ≤ q ∧ (q ≤ n ∨ q = p) ∧ (∀ j, p ≤ j → j < q → tx_Bl (T j))) → (n ≤ q ∨ ¬ tx_Bl (T q)) → cm_X (cm_C 1) 129 31 [some (.inr (.inr (some 184))), none, none, none] [] w Q) : ∀ (f q : Nat) (w : cm_W), n ≤ f + q → ((w.1 184 4).toInt = (q : Int) ∧ rm_S w0 w ∧ p ≤ q ∧ (q ≤ n ∨ q = p) ∧ (∀ j, p ≤ j → j < q → tx_Bl (T j))) → cm_X (cm_C 1) 129 0 [some (.inr (.inr (some 184))), none, none, none] [] w Q := by
  have hn9 : n ≤ 940 := hT.2.2.2.2.1
  intro f
  induction f with
  | zero =>
    intro q w hf hI
    obtain ⟨hat, hS, hpq, hqs, hbl⟩ := hI
    have hb := rm_b_c T n q
    refine wk_aload_n xd_57d75223 rfl ?_
    obtain ⟨x1, hCx1, hx1⟩ := mp_ok (w := w) (q := q) (rm_T_S hT hS) (((show ((w.1 184 4)).toInt = ((q : Int) : Int) from hat)).trans (by omega))
    refine wk_call (kd := 0) (i := 140) xd_dfc5eadb rfl (wk_cal (as := [.inr (.inr (some 184))]) (t := []) xl_07ccde5a rfl xn_49a33765 xc_0ce6a16a rfl rfl xv_2f10ad0b rfl) (cm_C_mono (by omega) hCx1) ?_
    refine wk_bipush xd_e69bf29f ?_
    refine wk_icmp xd_e68d17f0 (t := 18) rfl (fun h6_0 => ?_) (fun h6_0 => ?_)
    · have h6_0 := aw_eq_t (a := ((rm_b T n q) : Int)) (b := (32 : Int)) hx1 (show (((Int8.ofInt 32).toInt32)).toInt = 32 from by decide) h6_0
      exfalso
      omega
    · have h6_0 := aw_eq_f (a := ((rm_b T n q) : Int)) (b := (32 : Int)) hx1 (show (((Int8.ofInt 32).toInt32)).toInt = 32 from by decide) h6_0
      refine wk_aload_n xd_cc1dfbd1 rfl ?_
      obtain ⟨x10, hCx10, hx10⟩ := mp_ok (w := w) (q := q) (rm_T_S hT hS) (((show ((w.1 184 4)).toInt = ((q : Int) : Int) from hat)).trans (by omega))
      refine wk_call (kd := 0) (i := 140) xd_9fdb256e rfl (wk_cal (as := [.inr (.inr (some 184))]) (t := []) xl_07ccde5a rfl xn_49a33765 xc_0ce6a16a rfl rfl xv_2f10ad0b rfl) (cm_C_mono (by omega) hCx10) ?_
      refine wk_bipush xd_daa5b112 ?_
      refine wk_icmp xd_ae36bf21 (t := 31) rfl (fun h15_1 => ?_) (fun h15_1 => ?_)
      · have h15_1 := aw_ne_t (a := ((rm_b T n q) : Int)) (b := (10 : Int)) hx10 (show (((Int8.ofInt 10).toInt32)).toInt = 10 from by decide) h15_1
        exact hk w q ⟨hat, hS, hpq, hqs, hbl⟩ (hb.elim (fun g => .inr (fun h => by have g2 := g.2; omega)) (fun g => .inl g.1))
      · have h15_1 := aw_ne_f (a := ((rm_b T n q) : Int)) (b := (10 : Int)) hx10 (show (((Int8.ofInt 10).toInt32)).toInt = 10 from by decide) h15_1
        exfalso
        omega
  | succ f ih =>
    intro q w hf hI
    obtain ⟨hat, hS, hpq, hqs, hbl⟩ := hI
    have hb := rm_b_c T n q
    refine wk_aload_n xd_57d75223 rfl ?_
    obtain ⟨x1, hCx1, hx1⟩ := mp_ok (w := w) (q := q) (rm_T_S hT hS) (((show ((w.1 184 4)).toInt = ((q : Int) : Int) from hat)).trans (by omega))
    refine wk_call (kd := 0) (i := 140) xd_dfc5eadb rfl (wk_cal (as := [.inr (.inr (some 184))]) (t := []) xl_07ccde5a rfl xn_49a33765 xc_0ce6a16a rfl rfl xv_2f10ad0b rfl) (cm_C_mono (by omega) hCx1) ?_
    refine wk_bipush xd_e69bf29f ?_
    refine wk_icmp xd_e68d17f0 (t := 18) rfl (fun h6_2 => ?_) (fun h6_2 => ?_)
    · have h6_2 := aw_eq_t (a := ((rm_b T n q) : Int)) (b := (32 : Int)) hx1 (show (((Int8.ofInt 32).toInt32)).toInt = 32 from by decide) h6_2
      refine wk_aload_n xd_2ae1384d rfl ?_
      refine wk_dup_r xd_18407d4b ?_
      refine wk_getI xf_e747bbb5 xd_7637a722 ?_
      refine wk_iconst xd_bd9c7c1f ?_
      refine aw_iadd (a := ((q : Int) : Int)) (b := (1 : Int)) (e := ((q : Int) + 1 : Int)) xd_0c22f669 (show ((w.1 184 4)).toInt = ((q : Int) : Int) from hat) (show ((Int32.ofInt 1)).toInt = 1 from by decide) (by omega) (by omega) (by omega) (fun v4_ p4_ => ?_)
      refine wk_putI xf_a934f3ff (fun ci => wk_fitI ci) xd_91d0d1ee ?_
      refine wk_goto xd_5082983d (t := 0) rfl ?_
      refine ih (q + 1) _ (by omega) ⟨by rw [hs_u1_self]; omega, rm_S_u1 hS (by omega), by omega, by omega, fun j a b => ?_⟩
      by_cases e : j = q
      · rw [e]
        first | (left; omega) | (right; omega)
      · exact hbl j a (by omega)
    · have h6_2 := aw_eq_f (a := ((rm_b T n q) : Int)) (b := (32 : Int)) hx1 (show (((Int8.ofInt 32).toInt32)).toInt = 32 from by decide) h6_2
      refine wk_aload_n xd_cc1dfbd1 rfl ?_
      obtain ⟨x10, hCx10, hx10⟩ := mp_ok (w := w) (q := q) (rm_T_S hT hS) (((show ((w.1 184 4)).toInt = ((q : Int) : Int) from hat)).trans (by omega))
      refine wk_call (kd := 0) (i := 140) xd_9fdb256e rfl (wk_cal (as := [.inr (.inr (some 184))]) (t := []) xl_07ccde5a rfl xn_49a33765 xc_0ce6a16a rfl rfl xv_2f10ad0b rfl) (cm_C_mono (by omega) hCx10) ?_
      refine wk_bipush xd_daa5b112 ?_
      refine wk_icmp xd_ae36bf21 (t := 31) rfl (fun h15_4 => ?_) (fun h15_4 => ?_)
      · have h15_4 := aw_ne_t (a := ((rm_b T n q) : Int)) (b := (10 : Int)) hx10 (show (((Int8.ofInt 10).toInt32)).toInt = 10 from by decide) h15_4
        exact hk w q ⟨hat, hS, hpq, hqs, hbl⟩ (hb.elim (fun g => .inr (fun h => by have g2 := g.2; omega)) (fun g => .inl g.1))
      · have h15_4 := aw_ne_f (a := ((rm_b T n q) : Int)) (b := (10 : Int)) hx10 (show (((Int8.ofInt 10).toInt32)).toInt = 10 from by decide) h15_4
        refine wk_aload_n xd_2ae1384d rfl ?_
        refine wk_dup_r xd_18407d4b ?_
        refine wk_getI xf_e747bbb5 xd_7637a722 ?_
        refine wk_iconst xd_bd9c7c1f ?_
        refine aw_iadd (a := ((q : Int) : Int)) (b := (1 : Int)) (e := ((q : Int) + 1 : Int)) xd_0c22f669 (show ((w.1 184 4)).toInt = ((q : Int) : Int) from hat) (show ((Int32.ofInt 1)).toInt = 1 from by decide) (by omega) (by omega) (by omega) (fun v6_ p6_ => ?_)
        refine wk_putI xf_a934f3ff (fun ci => wk_fitI ci) xd_91d0d1ee ?_
        refine wk_goto xd_5082983d (t := 0) rfl ?_
        refine ih (q + 1) _ (by omega) ⟨by rw [hs_u1_self]; omega, rm_S_u1 hS (by omega), by omega, by omega, fun j a b => ?_⟩
        by_cases e : j = q
        · rw [e]
          first | (left; omega) | (right; omega)
        · exact hbl j a (by omega)
theorem mn_tail {w0 w : cm_W} {T : Nat → Int} {n m b k : Nat} {zs za : Int32} {lc : Option cm_V} (hT : rm_T w0 T n m) (Q : cm_O → Prop) (hk : ∀ (w : cm_W), ((w.1 184 4).toInt = (b : Int) + ((k + 1) : Nat) ∧ (w.1 184 13).toInt = (((k + 1) : Nat) : Int) ∧ rm_S w0 w ∧ w.1 184 12 = w0.1 184 12 ∧ ((za.toInt = 1 ∧ ((zs.toInt = 1 ∧ tx_ct T b (k + 1) = (k + 1)) ∨ (zs.toInt = 0 ∧ tx_ct T b (k + 1) = 0))) ∨ (za.toInt = 0 ∧ ((zs.toInt = 1 ∧ tx_ct T b (k + 1) ≠ (k + 1)) ∨ (zs.toInt = 0 ∧ tx_ct T b (k + 1) ≠ 0)))) ∧ (tx_ct T b (k + 1) = (k + 1) → (k + 1) ≤ 7 → w.2 184 17 = Int64.ofNat (tx_F (tx_cd T b (k + 1)))) ∧ (tx_ct T b (k + 1) = 0 → (k + 1) ≤ 3 → w.1 184 14 = Int32.ofInt (tx_nu T b (k + 1))) ∧ (∀ j, j < (k + 1) → tx_Sm (T (b + j)) ∨ tx_Dg (T (b + j))) ∧ b + (k + 1) ≤ n) → cm_X (cm_C 1) 129 181 [some (.inr (.inr (some 184))), lc, some (.inl zs), some (.inl za)] [] w Q) (hat : (w.1 184 4).toInt = (b : Int) + (k : Nat)) (hsp : (w.1 184 13).toInt = ((k : Nat) : Int)) (hS : rm_S w0 w) (hat9 : w.1 184 12 = w0.1 184 12) (hza : ((za.toInt = 1 ∧ ((zs.toInt = 1 ∧ tx_ct T b (k + 1) = (k + 1)) ∨ (zs.toInt = 0 ∧ tx_ct T b (k + 1) = 0))) ∨ (za.toInt = 0 ∧ ((zs.toInt = 1 ∧ tx_ct T b (k + 1) ≠ (k + 1)) ∨ (zs.toInt = 0 ∧ tx_ct T b (k + 1) ≠ 0))))) (hwd : tx_ct T b k = k → k ≤ 7 → w.2 184 17 = Int64.ofNat (tx_F (tx_cd T b k))) (hnu : tx_ct T b k = 0 → k ≤ 3 → w.1 184 14 = Int32.ofInt (tx_nu T b k)) (hall : ∀ j, j < k → tx_Sm (T (b + j)) ∨ tx_Dg (T (b + j))) (han : tx_Sm (T (b + k)) ∨ tx_Dg (T (b + k))) (hlt : b + k < n) : cm_X (cm_C 1) 129 222 [some (.inr (.inr (some 184))), lc, some (.inl zs), some (.inl za)] [] w Q := by
  have hn9 : n ≤ 940 := hT.2.2.2.2.1
  have hby := hT.2.1
  have hb := rm_b_c T n (b + k)
  refine wk_aload_n xd_d247f172 rfl ?_
  refine wk_getI xf_20544c99 xd_dc321a32 ?_
  refine wk_bipush xd_bc9aa125 ?_
  refine wk_icmp xd_26ecb99b (t := 248) rfl (fun h228_0 => ?_) (fun h228_0 => ?_)
  · have h228_0 := aw_ge_t (a := ((k : Int) : Int)) (b := (7 : Int)) (show ((w.1 184 13)).toInt = ((k : Int) : Int) from hsp) (show (((Int8.ofInt 7).toInt32)).toInt = 7 from by decide) h228_0
    refine wk_aload_n xd_8f5533ed rfl ?_
    refine wk_getI xf_20544c99 xd_20082126 ?_
    refine wk_iconst xd_835c5371 ?_
    refine wk_icmp xd_a13b0c89 (t := 275) rfl (fun h253_1 => ?_) (fun h253_1 => ?_)
    · have h253_1 := aw_ge_t (a := ((k : Int) : Int)) (b := (3 : Int)) (show ((w.1 184 13)).toInt = ((k : Int) : Int) from hsp) (show ((Int32.ofInt 3)).toInt = 3 from by decide) h253_1
      refine wk_aload_n xd_4cdd92a4 rfl ?_
      refine wk_dup_r xd_106811d1 ?_
      refine wk_getI xf_20544c99 xd_f96bfce8 ?_
      refine wk_iconst xd_4c5ac1f0 ?_
      refine aw_iadd (a := ((k : Int) : Int)) (b := (1 : Int)) (e := ((k : Int) + 1 : Int)) xd_eebc71b7 (show ((w.1 184 13)).toInt = ((k : Int) : Int) from hsp) (show ((Int32.ofInt 1)).toInt = 1 from by decide) (by omega) (by omega) (by omega) (fun v3_ p3_ => ?_)
      refine wk_putI xf_52c56cc7 (fun ci => wk_fitI ci) xd_7b090509 ?_
      refine wk_aload_n xd_afc8996d rfl ?_
      refine wk_dup_r xd_e617b5b9 ?_
      refine wk_getI xf_e747bbb5 xd_0c58cdc5 ?_
      refine wk_iconst xd_d7292b24 ?_
      refine aw_iadd (a := ((b : Int) + (k : Int) : Int)) (b := (1 : Int)) (e := ((b : Int) + (k : Int) + 1 : Int)) xd_395ef1ef (show (((cm_u1 w 184 13 v3_).1 184 4)).toInt = ((b : Int) + (k : Int) : Int) from hat) (show ((Int32.ofInt 1)).toInt = 1 from by decide) (by omega) (by omega) (by omega) (fun v4_ p4_ => ?_)
      refine wk_putI xf_a934f3ff (fun ci => wk_fitI ci) xd_0ca21d9e ?_
      refine wk_goto xd_61b344bd (t := 181) rfl ?_
      refine hk _ ⟨by rw [hs_u1_self]; omega, (show ((cm_u1 (cm_u1 w 184 13 v3_) 184 4 v4_).1 184 13).toInt = ((k + 1 : Nat) : Int) from by show (v3_).toInt = _; omega), (rm_S_u1 (rm_S_u1 hS (by omega)) (by omega)), hat9, hza, ?_, ?_, ?_, by omega⟩
      · intro h1 h2
        exfalso
        omega
      · intro h1 h2
        exfalso
        omega
      · intro j hj
        by_cases e : j = k
        · rw [e]
          exact han
        · exact hall j (by omega)
    · have h253_1 := aw_ge_f (a := ((k : Int) : Int)) (b := (3 : Int)) (show ((w.1 184 13)).toInt = ((k : Int) : Int) from hsp) (show ((Int32.ofInt 3)).toInt = 3 from by decide) h253_1
      refine wk_aload_n xd_e3036796 rfl ?_
      refine wk_bipush xd_fe687e06 ?_
      refine wk_aload_n xd_9503bc1e rfl ?_
      refine wk_getI xf_e7ce4028 xd_b0cce194 ?_
      refine wk_imul xd_404ffc29 ?_
      refine wk_aload_n xd_568b1d57 rfl ?_
      obtain ⟨x265, hCx265, hx265⟩ := mp_ok (w := w) (q := b + k) (rm_T_S hT hS) (((show ((w.1 184 4)).toInt = ((b : Int) + (k : Int) : Int) from hat)).trans (by omega))
      refine wk_call (kd := 0) (i := 140) xd_03b0911d rfl (wk_cal (as := [.inr (.inr (some 184))]) (t := [.inl (((Int8.ofInt 10).toInt32) * (w.1 184 14)), .inr (.inr (some 184))]) xl_07ccde5a rfl xn_49a33765 xc_0ce6a16a rfl rfl xv_2f10ad0b rfl) (cm_C_mono (by omega) hCx265) ?_
      refine wk_iadd xd_82c27fcc ?_
      refine wk_bipush xd_2bb83c00 ?_
      refine wk_isub xd_1aa84e00 ?_
      refine wk_putI xf_955f6076 (fun ci => wk_fitI ci) xd_94b6e81e ?_
      refine wk_aload_n xd_4cdd92a4 rfl ?_
      refine wk_dup_r xd_106811d1 ?_
      refine wk_getI xf_20544c99 xd_f96bfce8 ?_
      refine wk_iconst xd_4c5ac1f0 ?_
      refine aw_iadd (a := ((k : Int) : Int)) (b := (1 : Int)) (e := ((k : Int) + 1 : Int)) xd_eebc71b7 (show (((cm_u1 w 184 14 (((((Int8.ofInt 10).toInt32) * (w.1 184 14)) + x265) - ((Int8.ofInt 48).toInt32))).1 184 13)).toInt = ((k : Int) : Int) from hsp) (show ((Int32.ofInt 1)).toInt = 1 from by decide) (by omega) (by omega) (by omega) (fun v5_ p5_ => ?_)
      refine wk_putI xf_52c56cc7 (fun ci => wk_fitI ci) xd_7b090509 ?_
      refine wk_aload_n xd_afc8996d rfl ?_
      refine wk_dup_r xd_e617b5b9 ?_
      refine wk_getI xf_e747bbb5 xd_0c58cdc5 ?_
      refine wk_iconst xd_d7292b24 ?_
      refine aw_iadd (a := ((b : Int) + (k : Int) : Int)) (b := (1 : Int)) (e := ((b : Int) + (k : Int) + 1 : Int)) xd_395ef1ef (show (((cm_u1 (cm_u1 w 184 14 (((((Int8.ofInt 10).toInt32) * (w.1 184 14)) + x265) - ((Int8.ofInt 48).toInt32))) 184 13 v5_).1 184 4)).toInt = ((b : Int) + (k : Int) : Int) from hat) (show ((Int32.ofInt 1)).toInt = 1 from by decide) (by omega) (by omega) (by omega) (fun v6_ p6_ => ?_)
      refine wk_putI xf_a934f3ff (fun ci => wk_fitI ci) xd_0ca21d9e ?_
      refine wk_goto xd_61b344bd (t := 181) rfl ?_
      refine hk _ ⟨by rw [hs_u1_self]; omega, (show ((cm_u1 (cm_u1 (cm_u1 w 184 14 (((((Int8.ofInt 10).toInt32) * (w.1 184 14)) + x265) - ((Int8.ofInt 48).toInt32))) 184 13 v5_) 184 4 v6_).1 184 13).toInt = ((k + 1 : Nat) : Int) from by show (v5_).toInt = _; omega), (rm_S_u1 (rm_S_u1 (rm_S_u1 hS (by omega)) (by omega)) (by omega)), hat9, hza, ?_, ?_, ?_, by omega⟩
      · intro h1 h2
        exfalso
        omega
      · intro h1 h2
        have hns := tx_ct_none (k + 1) h1 k (by omega)
        have hct : tx_ct T b k = 0 := by
          have g := tx_ct_n hns
          omega
        show (((((Int8.ofInt 10).toInt32) * (w.1 184 14)) + x265) - ((Int8.ofInt 48).toInt32)) = _
        rw [show (w.1 184 14) = Int32.ofInt (tx_nu T b k) from hnu hct (by omega), show (Int8.ofInt 10).toInt32 = Int32.ofInt 10 from by decide, show (Int8.ofInt 48).toInt32 = Int32.ofInt 48 from by decide]
        exact tx_nstep2 (a := tx_nu T b k) (c := T (b + k)) (hx265.trans (by omega))
      · intro j hj
        by_cases e : j = k
        · rw [e]
          exact han
        · exact hall j (by omega)
  · have h228_0 := aw_ge_f (a := ((k : Int) : Int)) (b := (7 : Int)) (show ((w.1 184 13)).toInt = ((k : Int) : Int) from hsp) (show (((Int8.ofInt 7).toInt32)).toInt = 7 from by decide) h228_0
    refine wk_aload_n xd_2587ad68 rfl ?_
    refine wk_aload_n xd_53629455 rfl ?_
    refine aw_getL xf_93c9a031 xd_0af606b8 ?_
    refine wk_bipush xd_a5b9dc20 ?_
    refine aw_lshl xd_435bfa4f ?_
    refine wk_aload_n xd_253eee4e rfl ?_
    obtain ⟨x240, hCx240, hx240⟩ := mp_ok (w := w) (q := b + k) (rm_T_S hT hS) (((show ((w.1 184 4)).toInt = ((b : Int) + (k : Int) : Int) from hat)).trans (by omega))
    refine wk_call (kd := 0) (i := 140) xd_0e0dd79d rfl (wk_cal (as := [.inr (.inr (some 184))]) (t := [.inr (.inl ((w.2 184 17) <<< (((Int8.ofInt 8).toInt32).toInt64 &&& 63))), .inr (.inr (some 184))]) xl_07ccde5a rfl xn_49a33765 xc_0ce6a16a rfl rfl xv_2f10ad0b rfl) (cm_C_mono (by omega) hCx240) ?_
    refine aw_i2l xd_d8da01a8 ?_
    refine aw_lor xd_c5b0608e ?_
    refine aw_putL xf_d434a2b6 (fun _ => rfl) xd_b841c42b ?_
    refine wk_aload_n xd_8f5533ed rfl ?_
    refine wk_getI xf_20544c99 xd_20082126 ?_
    refine wk_iconst xd_835c5371 ?_
    refine wk_icmp xd_a13b0c89 (t := 275) rfl (fun h253_6 => ?_) (fun h253_6 => ?_)
    · have h253_6 := aw_ge_t (a := ((k : Int) : Int)) (b := (3 : Int)) (show (((cm_u2 w 184 17 (((w.2 184 17) <<< (((Int8.ofInt 8).toInt32).toInt64 &&& 63)) ||| (x240.toInt64))).1 184 13)).toInt = ((k : Int) : Int) from hsp) (show ((Int32.ofInt 3)).toInt = 3 from by decide) h253_6
      refine wk_aload_n xd_4cdd92a4 rfl ?_
      refine wk_dup_r xd_106811d1 ?_
      refine wk_getI xf_20544c99 xd_f96bfce8 ?_
      refine wk_iconst xd_4c5ac1f0 ?_
      refine aw_iadd (a := ((k : Int) : Int)) (b := (1 : Int)) (e := ((k : Int) + 1 : Int)) xd_eebc71b7 (show (((cm_u2 w 184 17 (((w.2 184 17) <<< (((Int8.ofInt 8).toInt32).toInt64 &&& 63)) ||| (x240.toInt64))).1 184 13)).toInt = ((k : Int) : Int) from hsp) (show ((Int32.ofInt 1)).toInt = 1 from by decide) (by omega) (by omega) (by omega) (fun v8_ p8_ => ?_)
      refine wk_putI xf_52c56cc7 (fun ci => wk_fitI ci) xd_7b090509 ?_
      refine wk_aload_n xd_afc8996d rfl ?_
      refine wk_dup_r xd_e617b5b9 ?_
      refine wk_getI xf_e747bbb5 xd_0c58cdc5 ?_
      refine wk_iconst xd_d7292b24 ?_
      refine aw_iadd (a := ((b : Int) + (k : Int) : Int)) (b := (1 : Int)) (e := ((b : Int) + (k : Int) + 1 : Int)) xd_395ef1ef (show (((cm_u1 (cm_u2 w 184 17 (((w.2 184 17) <<< (((Int8.ofInt 8).toInt32).toInt64 &&& 63)) ||| (x240.toInt64))) 184 13 v8_).1 184 4)).toInt = ((b : Int) + (k : Int) : Int) from hat) (show ((Int32.ofInt 1)).toInt = 1 from by decide) (by omega) (by omega) (by omega) (fun v9_ p9_ => ?_)
      refine wk_putI xf_a934f3ff (fun ci => wk_fitI ci) xd_0ca21d9e ?_
      refine wk_goto xd_61b344bd (t := 181) rfl ?_
      refine hk _ ⟨by rw [hs_u1_self]; omega, (show ((cm_u1 (cm_u1 (cm_u2 w 184 17 (((w.2 184 17) <<< (((Int8.ofInt 8).toInt32).toInt64 &&& 63)) ||| (x240.toInt64))) 184 13 v8_) 184 4 v9_).1 184 13).toInt = ((k + 1 : Nat) : Int) from by show (v8_).toInt = _; omega), (rm_S_u1 (rm_S_u1 (rm_S_u2 hS (by omega)) (by omega)) (by omega)), hat9, hza, ?_, ?_, ?_, by omega⟩
      · intro h1 h2
        have hal := tx_ct_all (k + 1) h1
        have hct : tx_ct T b k = k := by
          have g := tx_ct_s (hal k (by omega))
          omega
        show (((w.2 184 17) <<< (((Int8.ofInt 8).toInt32).toInt64 &&& 63)) ||| (x240.toInt64)) = _
        rw [tx_F_step (by omega) (fun j hj => hal j (by omega)), hwd hct (by omega)]
        exact tx_wshl (tx_F_lt (by omega) (fun j hj => hal j (by omega))) (hx240.trans (by omega)) (hby (b + k)).1 (hby (b + k)).2
      · intro h1 h2
        exfalso
        omega
      · intro j hj
        by_cases e : j = k
        · rw [e]
          exact han
        · exact hall j (by omega)
    · have h253_6 := aw_ge_f (a := ((k : Int) : Int)) (b := (3 : Int)) (show (((cm_u2 w 184 17 (((w.2 184 17) <<< (((Int8.ofInt 8).toInt32).toInt64 &&& 63)) ||| (x240.toInt64))).1 184 13)).toInt = ((k : Int) : Int) from hsp) (show ((Int32.ofInt 3)).toInt = 3 from by decide) h253_6
      refine wk_aload_n xd_e3036796 rfl ?_
      refine wk_bipush xd_fe687e06 ?_
      refine wk_aload_n xd_9503bc1e rfl ?_
      refine wk_getI xf_e7ce4028 xd_b0cce194 ?_
      refine wk_imul xd_404ffc29 ?_
      refine wk_aload_n xd_568b1d57 rfl ?_
      obtain ⟨x265, hCx265, hx265⟩ := mp_ok (w := (cm_u2 w 184 17 (((w.2 184 17) <<< (((Int8.ofInt 8).toInt32).toInt64 &&& 63)) ||| (x240.toInt64)))) (q := b + k) (rm_T_S hT (rm_S_u2 hS (by omega))) (((show (((cm_u2 w 184 17 (((w.2 184 17) <<< (((Int8.ofInt 8).toInt32).toInt64 &&& 63)) ||| (x240.toInt64))).1 184 4)).toInt = ((b : Int) + (k : Int) : Int) from hat)).trans (by omega))
      refine wk_call (kd := 0) (i := 140) xd_03b0911d rfl (wk_cal (as := [.inr (.inr (some 184))]) (t := [.inl (((Int8.ofInt 10).toInt32) * ((cm_u2 w 184 17 (((w.2 184 17) <<< (((Int8.ofInt 8).toInt32).toInt64 &&& 63)) ||| (x240.toInt64))).1 184 14)), .inr (.inr (some 184))]) xl_07ccde5a rfl xn_49a33765 xc_0ce6a16a rfl rfl xv_2f10ad0b rfl) (cm_C_mono (by omega) hCx265) ?_
      refine wk_iadd xd_82c27fcc ?_
      refine wk_bipush xd_2bb83c00 ?_
      refine wk_isub xd_1aa84e00 ?_
      refine wk_putI xf_955f6076 (fun ci => wk_fitI ci) xd_94b6e81e ?_
      refine wk_aload_n xd_4cdd92a4 rfl ?_
      refine wk_dup_r xd_106811d1 ?_
      refine wk_getI xf_20544c99 xd_f96bfce8 ?_
      refine wk_iconst xd_4c5ac1f0 ?_
      refine aw_iadd (a := ((k : Int) : Int)) (b := (1 : Int)) (e := ((k : Int) + 1 : Int)) xd_eebc71b7 (show (((cm_u1 (cm_u2 w 184 17 (((w.2 184 17) <<< (((Int8.ofInt 8).toInt32).toInt64 &&& 63)) ||| (x240.toInt64))) 184 14 (((((Int8.ofInt 10).toInt32) * ((cm_u2 w 184 17 (((w.2 184 17) <<< (((Int8.ofInt 8).toInt32).toInt64 &&& 63)) ||| (x240.toInt64))).1 184 14)) + x265) - ((Int8.ofInt 48).toInt32))).1 184 13)).toInt = ((k : Int) : Int) from hsp) (show ((Int32.ofInt 1)).toInt = 1 from by decide) (by omega) (by omega) (by omega) (fun v10_ p10_ => ?_)
      refine wk_putI xf_52c56cc7 (fun ci => wk_fitI ci) xd_7b090509 ?_
      refine wk_aload_n xd_afc8996d rfl ?_
      refine wk_dup_r xd_e617b5b9 ?_
      refine wk_getI xf_e747bbb5 xd_0c58cdc5 ?_
      refine wk_iconst xd_d7292b24 ?_
      refine aw_iadd (a := ((b : Int) + (k : Int) : Int)) (b := (1 : Int)) (e := ((b : Int) + (k : Int) + 1 : Int)) xd_395ef1ef (show (((cm_u1 (cm_u1 (cm_u2 w 184 17 (((w.2 184 17) <<< (((Int8.ofInt 8).toInt32).toInt64 &&& 63)) ||| (x240.toInt64))) 184 14 (((((Int8.ofInt 10).toInt32) * ((cm_u2 w 184 17 (((w.2 184 17) <<< (((Int8.ofInt 8).toInt32).toInt64 &&& 63)) ||| (x240.toInt64))).1 184 14)) + x265) - ((Int8.ofInt 48).toInt32))) 184 13 v10_).1 184 4)).toInt = ((b : Int) + (k : Int) : Int) from hat) (show ((Int32.ofInt 1)).toInt = 1 from by decide) (by omega) (by omega) (by omega) (fun v11_ p11_ => ?_)
      refine wk_putI xf_a934f3ff (fun ci => wk_fitI ci) xd_0ca21d9e ?_
      refine wk_goto xd_61b344bd (t := 181) rfl ?_
      refine hk _ ⟨by rw [hs_u1_self]; omega, (show ((cm_u1 (cm_u1 (cm_u1 (cm_u2 w 184 17 (((w.2 184 17) <<< (((Int8.ofInt 8).toInt32).toInt64 &&& 63)) ||| (x240.toInt64))) 184 14 (((((Int8.ofInt 10).toInt32) * ((cm_u2 w 184 17 (((w.2 184 17) <<< (((Int8.ofInt 8).toInt32).toInt64 &&& 63)) ||| (x240.toInt64))).1 184 14)) + x265) - ((Int8.ofInt 48).toInt32))) 184 13 v10_) 184 4 v11_).1 184 13).toInt = ((k + 1 : Nat) : Int) from by show (v10_).toInt = _; omega), (rm_S_u1 (rm_S_u1 (rm_S_u1 (rm_S_u2 hS (by omega)) (by omega)) (by omega)) (by omega)), hat9, hza, ?_, ?_, ?_, by omega⟩
      · intro h1 h2
        have hal := tx_ct_all (k + 1) h1
        have hct : tx_ct T b k = k := by
          have g := tx_ct_s (hal k (by omega))
          omega
        show (((w.2 184 17) <<< (((Int8.ofInt 8).toInt32).toInt64 &&& 63)) ||| (x240.toInt64)) = _
        rw [tx_F_step (by omega) (fun j hj => hal j (by omega)), hwd hct (by omega)]
        exact tx_wshl (tx_F_lt (by omega) (fun j hj => hal j (by omega))) (hx240.trans (by omega)) (hby (b + k)).1 (hby (b + k)).2
      · intro h1 h2
        have hns := tx_ct_none (k + 1) h1 k (by omega)
        have hct : tx_ct T b k = 0 := by
          have g := tx_ct_n hns
          omega
        show (((((Int8.ofInt 10).toInt32) * ((cm_u2 w 184 17 (((w.2 184 17) <<< (((Int8.ofInt 8).toInt32).toInt64 &&& 63)) ||| (x240.toInt64))).1 184 14)) + x265) - ((Int8.ofInt 48).toInt32)) = _
        rw [show ((cm_u2 w 184 17 (((w.2 184 17) <<< (((Int8.ofInt 8).toInt32).toInt64 &&& 63)) ||| (x240.toInt64))).1 184 14) = Int32.ofInt (tx_nu T b k) from hnu hct (by omega), show (Int8.ofInt 10).toInt32 = Int32.ofInt 10 from by decide, show (Int8.ofInt 48).toInt32 = Int32.ofInt 48 from by decide]
        exact tx_nstep2 (a := tx_nu T b k) (c := T (b + k)) (hx265.trans (by omega))
      · intro j hj
        by_cases e : j = k
        · rw [e]
          exact han
        · exact hall j (by omega)
theorem mn_loop {w0 : cm_W} {T : Nat → Int} {n m b : Nat} {zs : Int32} {lc : Option cm_V} (hT : rm_T w0 T n m) (Q : cm_O → Prop) (hk : ∀ (w : cm_W) (k : Nat) (za : Int32), ((w.1 184 4).toInt = (b : Int) + (k : Nat) ∧ (w.1 184 13).toInt = ((k : Nat) : Int) ∧ rm_S w0 w ∧ w.1 184 12 = w0.1 184 12 ∧ ((za.toInt = 1 ∧ ((zs.toInt = 1 ∧ tx_ct T b k = k) ∨ (zs.toInt = 0 ∧ tx_ct T b k = 0))) ∨ (za.toInt = 0 ∧ ((zs.toInt = 1 ∧ tx_ct T b k ≠ k) ∨ (zs.toInt = 0 ∧ tx_ct T b k ≠ 0)))) ∧ (tx_ct T b k = k → k ≤ 7 → w.2 184 17 = Int64.ofNat (tx_F (tx_cd T b k))) ∧ (tx_ct T b k = 0 → k ≤ 3 → w.1 184 14 = Int32.ofInt (tx_nu T b k)) ∧ (∀ j, j < k → tx_Sm (T (b + j)) ∨ tx_Dg (T (b + j))) ∧ b + k ≤ n) → (n ≤ b + k ∨ ¬ (tx_Sm (T (b + k)) ∨ tx_Dg (T (b + k)))) → cm_X (cm_C 1) 129 298 [some (.inr (.inr (some 184))), lc, some (.inl zs), some (.inl za)] [] w Q) : ∀ (f k : Nat) (za : Int32) (w : cm_W), n < f + (b + k) → ((w.1 184 4).toInt = (b : Int) + (k : Nat) ∧ (w.1 184 13).toInt = ((k : Nat) : Int) ∧ rm_S w0 w ∧ w.1 184 12 = w0.1 184 12 ∧ ((za.toInt = 1 ∧ ((zs.toInt = 1 ∧ tx_ct T b k = k) ∨ (zs.toInt = 0 ∧ tx_ct T b k = 0))) ∨ (za.toInt = 0 ∧ ((zs.toInt = 1 ∧ tx_ct T b k ≠ k) ∨ (zs.toInt = 0 ∧ tx_ct T b k ≠ 0)))) ∧ (tx_ct T b k = k → k ≤ 7 → w.2 184 17 = Int64.ofNat (tx_F (tx_cd T b k))) ∧ (tx_ct T b k = 0 → k ≤ 3 → w.1 184 14 = Int32.ofInt (tx_nu T b k)) ∧ (∀ j, j < k → tx_Sm (T (b + j)) ∨ tx_Dg (T (b + j))) ∧ b + k ≤ n) → cm_X (cm_C 1) 129 181 [some (.inr (.inr (some 184))), lc, some (.inl zs), some (.inl za)] [] w Q := by
  have hn9 : n ≤ 940 := hT.2.2.2.2.1
  intro f
  induction f with
  | zero =>
    intro k za w hf hI
    have hle := hI.2.2.2.2.2.2.2.2
    exact absurd hf (by omega)
  | succ f ih =>
    intro k za w hf hI
    obtain ⟨hat, hsp, hS, hat9, hza, hwd, hnu, hall, hle⟩ := hI
    have hb := rm_b_c T n (b + k)
    refine wk_aload_n xd_9a798ead rfl ?_
    obtain ⟨x182, hCx182, hx182⟩ := mp_ok (w := w) (q := b + k) (rm_T_S hT hS) (((show ((w.1 184 4)).toInt = ((b : Int) + (k : Int) : Int) from hat)).trans (by omega))
    refine wk_call (kd := 0) (i := 140) xd_da4b9954 rfl (wk_cal (as := [.inr (.inr (some 184))]) (t := []) xl_07ccde5a rfl xn_49a33765 xc_0ce6a16a rfl rfl xv_2f10ad0b rfl) (cm_C_mono (by omega) hCx182) ?_
    obtain ⟨s185, hCs185, hs185⟩ := ms_ok (w := w) (c := ((rm_b T n (b + k)) : Int)) hx182
    refine wk_call (kd := 1) (i := 153) xd_9771f40c rfl (wk_cal (as := [.inl x182]) (t := []) xl_ea921303 rfl xn_97b6022a xc_e24ee852 rfl rfl rfl rfl) (cm_C_mono (by omega) hCs185) ?_
    refine wk_if xd_24befb65 (t := 201) rfl (fun h188_0 => ?_) (fun h188_0 => ?_)
    · have h188_0 := aw_ne_t (a := ((s185).toInt : Int)) (b := (0 : Int)) rfl hb_z h188_0
      refine wk_iload_n xd_603aadfd rfl ?_
      refine wk_if xd_9ef708f4 (t := 220) rfl (fun h202_1 => ?_) (fun h202_1 => ?_)
      · have h202_1 := aw_eq_t (a := ((za).toInt : Int)) (b := (0 : Int)) rfl hb_z h202_1
        refine wk_iconst xd_9c15788f ?_
        refine wk_istore_n xd_01168c4f (by rw [xm_0c78751a]; rfl) rfl ?_
        have hq : b + k < n ∧ (tx_Sm (T (b + k)) ∨ tx_Dg (T (b + k))) := by
          rcases hb with ⟨g1, g2⟩ | ⟨g1, g2⟩
          · refine ⟨g1, ?_⟩
            rw [g2] at hs185
            omega
          · exfalso
            rw [g2] at hs185
            omega
        have g9 : rm_b T n (b + k) = T (b + k) := by omega
        refine mn_tail hT Q (fun w9 h9 => ih (k + 1) _ w9 (by omega) h9) hat hsp hS hat9 ?_ hwd hnu hall hq.2 hq.1
        rw [g9] at hs185
        have hl := tx_ct_le T b k
        have e1 : (Int32.ofInt 1).toInt = 1 := by decide
        have e0 : (Int32.ofInt 0).toInt = 0 := by decide
        by_cases hsm : tx_Sm (T (b + k))
        · rw [tx_ct_s hsm]
          omega
        · rw [tx_ct_n hsm]
          omega
      · have h202_1 := aw_eq_f (a := ((za).toInt : Int)) (b := (0 : Int)) rfl hb_z h202_1
        refine wk_aload_n xd_7dc5a5d3 rfl ?_
        obtain ⟨x206, hCx206, hx206⟩ := mp_ok (w := w) (q := b + k) (rm_T_S hT hS) (((show ((w.1 184 4)).toInt = ((b : Int) + (k : Int) : Int) from hat)).trans (by omega))
        refine wk_call (kd := 0) (i := 140) xd_59d7bf51 rfl (wk_cal (as := [.inr (.inr (some 184))]) (t := []) xl_07ccde5a rfl xn_49a33765 xc_0ce6a16a rfl rfl xv_2f10ad0b rfl) (cm_C_mono (by omega) hCx206) ?_
        obtain ⟨s209, hCs209, hs209⟩ := ms_ok (w := w) (c := ((rm_b T n (b + k)) : Int)) hx206
        refine wk_call (kd := 1) (i := 153) xd_e0a4281a rfl (wk_cal (as := [.inl x206]) (t := []) xl_ea921303 rfl xn_97b6022a xc_e24ee852 rfl rfl rfl rfl) (cm_C_mono (by omega) hCs209) ?_
        refine wk_iload_n xd_aa9ad857 rfl ?_
        refine wk_icmp xd_11dc86a1 (t := 220) rfl (fun h213_2 => ?_) (fun h213_2 => ?_)
        · have h213_2 := aw_ne_t (a := ((s209).toInt : Int)) (b := ((zs).toInt : Int)) rfl rfl h213_2
          refine wk_iconst xd_9c15788f ?_
          refine wk_istore_n xd_01168c4f (by rw [xm_0c78751a]; rfl) rfl ?_
          have hq : b + k < n ∧ (tx_Sm (T (b + k)) ∨ tx_Dg (T (b + k))) := by
            rcases hb with ⟨g1, g2⟩ | ⟨g1, g2⟩
            · refine ⟨g1, ?_⟩
              rw [g2] at hs185
              omega
            · exfalso
              rw [g2] at hs185
              omega
          have g9 : rm_b T n (b + k) = T (b + k) := by omega
          refine mn_tail hT Q (fun w9 h9 => ih (k + 1) _ w9 (by omega) h9) hat hsp hS hat9 ?_ hwd hnu hall hq.2 hq.1
          rw [g9] at hs185 hs209
          have hl := tx_ct_le T b k
          have e1 : (Int32.ofInt 1).toInt = 1 := by decide
          have e0 : (Int32.ofInt 0).toInt = 0 := by decide
          by_cases hsm : tx_Sm (T (b + k))
          · rw [tx_ct_s hsm]
            omega
          · rw [tx_ct_n hsm]
            omega
        · have h213_2 := aw_ne_f (a := ((s209).toInt : Int)) (b := ((zs).toInt : Int)) rfl rfl h213_2
          refine wk_iconst xd_a5613282 ?_
          refine wk_goto xd_a23aa4f3 (t := 221) rfl ?_
          refine wk_istore_n xd_01168c4f (by rw [xm_0c78751a]; rfl) rfl ?_
          have hq : b + k < n ∧ (tx_Sm (T (b + k)) ∨ tx_Dg (T (b + k))) := by
            rcases hb with ⟨g1, g2⟩ | ⟨g1, g2⟩
            · refine ⟨g1, ?_⟩
              rw [g2] at hs185
              omega
            · exfalso
              rw [g2] at hs185
              omega
          have g9 : rm_b T n (b + k) = T (b + k) := by omega
          refine mn_tail hT Q (fun w9 h9 => ih (k + 1) _ w9 (by omega) h9) hat hsp hS hat9 ?_ hwd hnu hall hq.2 hq.1
          rw [g9] at hs185 hs209
          have hl := tx_ct_le T b k
          have e1 : (Int32.ofInt 1).toInt = 1 := by decide
          have e0 : (Int32.ofInt 0).toInt = 0 := by decide
          by_cases hsm : tx_Sm (T (b + k))
          · rw [tx_ct_s hsm]
            omega
          · rw [tx_ct_n hsm]
            omega
    · have h188_0 := aw_ne_f (a := ((s185).toInt : Int)) (b := (0 : Int)) rfl hb_z h188_0
      refine wk_aload_n xd_1b5ceb8a rfl ?_
      obtain ⟨x192, hCx192, hx192⟩ := mp_ok (w := w) (q := b + k) (rm_T_S hT hS) (((show ((w.1 184 4)).toInt = ((b : Int) + (k : Int) : Int) from hat)).trans (by omega))
      refine wk_call (kd := 0) (i := 140) xd_2b919cfe rfl (wk_cal (as := [.inr (.inr (some 184))]) (t := []) xl_07ccde5a rfl xn_49a33765 xc_0ce6a16a rfl rfl xv_2f10ad0b rfl) (cm_C_mono (by omega) hCx192) ?_
      obtain ⟨d195, hCd195, hd195⟩ := md_ok (w := w) (c := ((rm_b T n (b + k)) : Int)) hx192
      refine wk_call (kd := 1) (i := 157) xd_6c16ba1d rfl (wk_cal (as := [.inl x192]) (t := []) xl_87ac4868 rfl xn_11227084 xc_3cc433d4 rfl rfl rfl rfl) (cm_C_mono (by omega) hCd195) ?_
      refine wk_if xd_00983d04 (t := 298) rfl (fun h198_3 => ?_) (fun h198_3 => ?_)
      · have h198_3 := aw_eq_t (a := ((d195).toInt : Int)) (b := (0 : Int)) rfl hb_z h198_3
        exact hk w k za ⟨hat, hsp, hS, hat9, hza, hwd, hnu, hall, hle⟩ (hb.elim (fun g => .inr (fun h => by have g2 := g.2; rw [g2] at hd195 hs185; omega)) (fun g => .inl g.1))
      · have h198_3 := aw_eq_f (a := ((d195).toInt : Int)) (b := (0 : Int)) rfl hb_z h198_3
        refine wk_iload_n xd_603aadfd rfl ?_
        refine wk_if xd_9ef708f4 (t := 220) rfl (fun h202_4 => ?_) (fun h202_4 => ?_)
        · have h202_4 := aw_eq_t (a := ((za).toInt : Int)) (b := (0 : Int)) rfl hb_z h202_4
          refine wk_iconst xd_9c15788f ?_
          refine wk_istore_n xd_01168c4f (by rw [xm_0c78751a]; rfl) rfl ?_
          have hq : b + k < n ∧ (tx_Sm (T (b + k)) ∨ tx_Dg (T (b + k))) := by
            rcases hb with ⟨g1, g2⟩ | ⟨g1, g2⟩
            · refine ⟨g1, ?_⟩
              rw [g2] at hs185 hd195
              omega
            · exfalso
              rw [g2] at hs185 hd195
              omega
          have g9 : rm_b T n (b + k) = T (b + k) := by omega
          refine mn_tail hT Q (fun w9 h9 => ih (k + 1) _ w9 (by omega) h9) hat hsp hS hat9 ?_ hwd hnu hall hq.2 hq.1
          rw [g9] at hs185 hd195
          have hl := tx_ct_le T b k
          have e1 : (Int32.ofInt 1).toInt = 1 := by decide
          have e0 : (Int32.ofInt 0).toInt = 0 := by decide
          by_cases hsm : tx_Sm (T (b + k))
          · rw [tx_ct_s hsm]
            omega
          · rw [tx_ct_n hsm]
            omega
        · have h202_4 := aw_eq_f (a := ((za).toInt : Int)) (b := (0 : Int)) rfl hb_z h202_4
          refine wk_aload_n xd_7dc5a5d3 rfl ?_
          obtain ⟨x206, hCx206, hx206⟩ := mp_ok (w := w) (q := b + k) (rm_T_S hT hS) (((show ((w.1 184 4)).toInt = ((b : Int) + (k : Int) : Int) from hat)).trans (by omega))
          refine wk_call (kd := 0) (i := 140) xd_59d7bf51 rfl (wk_cal (as := [.inr (.inr (some 184))]) (t := []) xl_07ccde5a rfl xn_49a33765 xc_0ce6a16a rfl rfl xv_2f10ad0b rfl) (cm_C_mono (by omega) hCx206) ?_
          obtain ⟨s209, hCs209, hs209⟩ := ms_ok (w := w) (c := ((rm_b T n (b + k)) : Int)) hx206
          refine wk_call (kd := 1) (i := 153) xd_e0a4281a rfl (wk_cal (as := [.inl x206]) (t := []) xl_ea921303 rfl xn_97b6022a xc_e24ee852 rfl rfl rfl rfl) (cm_C_mono (by omega) hCs209) ?_
          refine wk_iload_n xd_aa9ad857 rfl ?_
          refine wk_icmp xd_11dc86a1 (t := 220) rfl (fun h213_5 => ?_) (fun h213_5 => ?_)
          · have h213_5 := aw_ne_t (a := ((s209).toInt : Int)) (b := ((zs).toInt : Int)) rfl rfl h213_5
            refine wk_iconst xd_9c15788f ?_
            refine wk_istore_n xd_01168c4f (by rw [xm_0c78751a]; rfl) rfl ?_
            have hq : b + k < n ∧ (tx_Sm (T (b + k)) ∨ tx_Dg (T (b + k))) := by
              rcases hb with ⟨g1, g2⟩ | ⟨g1, g2⟩
              · refine ⟨g1, ?_⟩
                rw [g2] at hs185 hd195
                omega
              · exfalso
                rw [g2] at hs185 hd195
                omega
            have g9 : rm_b T n (b + k) = T (b + k) := by omega
            refine mn_tail hT Q (fun w9 h9 => ih (k + 1) _ w9 (by omega) h9) hat hsp hS hat9 ?_ hwd hnu hall hq.2 hq.1
            rw [g9] at hs185 hd195 hs209
            have hl := tx_ct_le T b k
            have e1 : (Int32.ofInt 1).toInt = 1 := by decide
            have e0 : (Int32.ofInt 0).toInt = 0 := by decide
            by_cases hsm : tx_Sm (T (b + k))
            · rw [tx_ct_s hsm]
              omega
            · rw [tx_ct_n hsm]
              omega
          · have h213_5 := aw_ne_f (a := ((s209).toInt : Int)) (b := ((zs).toInt : Int)) rfl rfl h213_5
            refine wk_iconst xd_a5613282 ?_
            refine wk_goto xd_a23aa4f3 (t := 221) rfl ?_
            refine wk_istore_n xd_01168c4f (by rw [xm_0c78751a]; rfl) rfl ?_
            have hq : b + k < n ∧ (tx_Sm (T (b + k)) ∨ tx_Dg (T (b + k))) := by
              rcases hb with ⟨g1, g2⟩ | ⟨g1, g2⟩
              · refine ⟨g1, ?_⟩
                rw [g2] at hs185 hd195
                omega
              · exfalso
                rw [g2] at hs185 hd195
                omega
            have g9 : rm_b T n (b + k) = T (b + k) := by omega
            refine mn_tail hT Q (fun w9 h9 => ih (k + 1) _ w9 (by omega) h9) hat hsp hS hat9 ?_ hwd hnu hall hq.2 hq.1
            rw [g9] at hs185 hd195 hs209
            have hl := tx_ct_le T b k
            have e1 : (Int32.ofInt 1).toInt = 1 := by decide
            have e0 : (Int32.ofInt 0).toInt = 0 := by decide
            by_cases hsm : tx_Sm (T (b + k))
            · rw [tx_ct_s hsm]
              omega
            · rw [tx_ct_n hsm]
              omega
theorem tx_u2_through {w : cm_W} {x : Int64} {z : Int32} : (cm_u1 (cm_u2 w 184 17 x) 184 14 z).2 184 17 = x := (show (cm_u2 w 184 17 x).2 184 17 = x from tx_u2_self)
theorem mn_ok {w : cm_W} {T : Nat → Int} {n m p : Nat} (hT : rm_T w T n m) (hat0 : (w.1 184 4).toInt = (p : Int)) (hp : p ≤ n) : ∃ w', cm_C 2 129 [.inr (.inr (some 184))] w (none, w') ∧ rm_S w w' ∧ rm_C w' (tx_tk T n m p) := by
  have hn9 : n ≤ 940 := hT.2.2.2.2.1
  have hm9 : m ≤ 940 := hT.2.2.2.2.2.1
  have h : ∃ o, cm_C (1 + 1) 129 [.inr (.inr (some 184))] w o ∧ (fun o : cm_O => ∃ w', o = (none, w') ∧ rm_S w w' ∧ rm_C w' (tx_tk T n m p)) o := by
    refine wk_entry (by rw [xm_0c78751a]; exact Nat.le_of_ble_eq_true rfl) ?_
    rw [show cm_ent 129 [.inr (.inr (some 184))] = [some (.inr (.inr (some 184))), none, none, none] from by unfold cm_ent; rw [xm_0c78751a]; rfl]
    refine mn_skip (p := p) hT _ (fun w9 q hI hE => ?_) n p w (by omega) ⟨hat0, rm_S_rf w, Nat.le_refl p, .inr rfl, fun j a b => absurd b (by omega)⟩
    obtain ⟨hat, hS, hpq, hqs, hbl⟩ := hI
    have hb := rm_b_c T n q
    have hsz : (w9.1 184 3).toInt = (n : Int) := by rw [(hS 184 3 (by omega)).1]; exact hT.2.2.1
    have hmo : (w9.1 184 5).toInt = (m : Int) := by rw [(hS 184 5 (by omega)).1]; exact hT.2.2.2.1
    have hby := hT.2.1 q
    refine wk_aload_n xd_68105db0 rfl ?_
    refine wk_aload_n xd_1ef5648d rfl ?_
    refine wk_getI xf_e747bbb5 xd_a4c7b7e6 ?_
    refine wk_putI xf_ee9d5c7d (fun ci => wk_fitI ci) xd_9e6691d1 ?_
    refine wk_aload_n xd_68a91e96 rfl ?_
    refine wk_iconst xd_544e8a95 ?_
    refine wk_putI xf_52c56cc7 (fun ci => wk_fitI ci) xd_d3d0d6a1 ?_
    refine wk_aload_n xd_c2272180 rfl ?_
    refine wk_getI xf_8b7af596 xd_9c5bb0b9 ?_
    refine wk_aload_n xd_c2c2c335 rfl ?_
    refine wk_getI xf_72dc0d9d xd_0889f65a ?_
    refine wk_icmp xd_ea03caea (t := 80) rfl (fun h52_0 => ?_) (fun h52_0 => ?_)
    · have h52_0 := aw_le_t (a := ((n : Int) : Int)) (b := ((m : Int) : Int)) (show (((cm_u1 (cm_u1 w9 184 12 (w9.1 184 4)) 184 13 (Int32.ofInt 0)).1 184 3)).toInt = ((n : Int) : Int) from hsz) (show (((cm_u1 (cm_u1 w9 184 12 (w9.1 184 4)) 184 13 (Int32.ofInt 0)).1 184 5)).toInt = ((m : Int) : Int) from hmo) h52_0
      refine wk_aload_n xd_797022f2 rfl ?_
      obtain ⟨x81, hCx81, hx81⟩ := mp_ok (w := (cm_u1 (cm_u1 w9 184 12 (w9.1 184 4)) 184 13 (Int32.ofInt 0))) (q := q) (rm_T_S hT (rm_S_u1 (rm_S_u1 hS (by omega)) (by omega))) (((show (((cm_u1 (cm_u1 w9 184 12 (w9.1 184 4)) 184 13 (Int32.ofInt 0)).1 184 4)).toInt = ((q : Int) : Int) from hat)).trans (by omega))
      refine wk_call (kd := 0) (i := 140) xd_83f2fc41 rfl (wk_cal (as := [.inr (.inr (some 184))]) (t := []) xl_07ccde5a rfl xn_49a33765 xc_0ce6a16a rfl rfl xv_2f10ad0b rfl) (cm_C_mono (by omega) hCx81) ?_
      refine wk_istore_n xd_a7dd5cab (by rw [xm_0c78751a]; rfl) rfl ?_
      refine wk_iload_n xd_853c9368 rfl ?_
      refine wk_if xd_268491e6 (t := 95) rfl (fun h86_1 => ?_) (fun h86_1 => ?_)
      · have h86_1 := aw_ge_t (a := ((rm_b T n q) : Int)) (b := (0 : Int)) hx81 hb_z h86_1
        have hq9 : rm_b T n q = T q := by omega
        have hqn : q < n := by omega
        have hnb : ¬ tx_Bl (T q) := by
          rcases hE with h | h
          · omega
          · exact h
        have hs : tx_sk T n p = q := tx_sk_eq hpq (.inl (by omega)) hbl (.inr hnb)
        refine wk_iload_n xd_0419f64f rfl ?_
        obtain ⟨s96, hCs96, hs96⟩ := ms_ok (w := (cm_u1 (cm_u1 w9 184 12 (w9.1 184 4)) 184 13 (Int32.ofInt 0))) (c := ((rm_b T n q) : Int)) hx81
        refine wk_call (kd := 1) (i := 153) xd_93ce1ea1 rfl (wk_cal (as := [.inl x81]) (t := []) xl_ea921303 rfl xn_97b6022a xc_e24ee852 rfl rfl rfl rfl) (cm_C_mono (by omega) hCs96) ?_
        refine wk_if xd_1c83701b (t := 164) rfl (fun h99_2 => ?_) (fun h99_2 => ?_)
        · have h99_2 := aw_ne_t (a := ((s96).toInt : Int)) (b := (0 : Int)) rfl hb_z h99_2
          refine wk_iload_n xd_040551d9 rfl ?_
          obtain ⟨s165, hCs165, hs165⟩ := ms_ok (w := (cm_u1 (cm_u1 w9 184 12 (w9.1 184 4)) 184 13 (Int32.ofInt 0))) (c := ((rm_b T n q) : Int)) hx81
          refine wk_call (kd := 1) (i := 153) xd_c61ec062 rfl (wk_cal (as := [.inl x81]) (t := []) xl_ea921303 rfl xn_97b6022a xc_e24ee852 rfl rfl rfl rfl) (cm_C_mono (by omega) hCs165) ?_
          refine wk_istore_n xd_66b45b65 (by rw [xm_0c78751a]; rfl) rfl ?_
          refine wk_iconst xd_575c1b44 ?_
          refine wk_istore_n xd_2c52de65 (by rw [xm_0c78751a]; rfl) rfl ?_
          refine wk_aload_n xd_796c8564 rfl ?_
          refine aw_lconst xd_e9d72470 ?_
          refine aw_putL xf_d434a2b6 (fun _ => rfl) xd_36d5337e ?_
          refine wk_aload_n xd_0fd51dca rfl ?_
          refine wk_iconst xd_3afda4a0 ?_
          refine wk_putI xf_955f6076 (fun ci => wk_fitI ci) xd_d60b89ea ?_
          have han : tx_Sm (T (q + 0)) ∨ tx_Dg (T (q + 0)) := by
            show tx_Sm (T q) ∨ tx_Dg (T q)
            rw [hq9] at hs96
            omega
          rw [hq9] at hs165
          refine mn_loop (w0 := (cm_u1 (cm_u2 (cm_u1 (cm_u1 w9 184 12 (w9.1 184 4)) 184 13 (Int32.ofInt 0)) 184 17 (Int64.ofNat 0)) 184 14 (Int32.ofInt 0))) (zs := s165) (b := q) (rm_T_S hT (rm_S_u1 (rm_S_u2 (rm_S_u1 (rm_S_u1 hS (by omega)) (by omega)) (by omega)) (by omega))) _ (fun w8 k za hI hE8 => ?_) (n + 1) 0 _ _ (by omega) ⟨?_, ?_, rm_S_rf _, rfl, ?_, ?_, ?_, ?_, ?_⟩
          · obtain ⟨hat8, hsp8, hS8, ha8, hza8, hwd8, hnu8, hall8, hle8⟩ := hI
            have hl := tx_ct_le T q k
            have hk0 : 1 ≤ k := by
              rcases Nat.eq_zero_or_pos k with e | e
              · subst e
                rcases hE8 with h | h
                · omega
                · exact absurd han h
              · exact e
            have hre : tx_re T n q = q + k := tx_re_eq (by omega) (.inl hle8) (fun j a c => by have h8 := hall8 (j - q) (by omega); rw [show q + (j - q) = j from by omega] at h8; exact h8) hE8
            have ha7 : (w8.1 184 12).toInt = (q : Int) := by
              rw [ha8]
              exact ((show (((cm_u1 (cm_u2 (cm_u1 (cm_u1 w9 184 12 (w9.1 184 4)) 184 13 (Int32.ofInt 0)) 184 17 (Int64.ofNat 0)) 184 14 (Int32.ofInt 0)).1 184 12)).toInt = ((q : Int) : Int) from (show ((w9.1 184 4)).toInt = ((q : Int) : Int) from hat))).trans (by omega)
            have hcp : ((s165).toInt = 1 ∧ 1 ≤ tx_ct T q k) ∨ ((s165).toInt = 0 ∧ tx_ct T q k < k) := by
              rcases hs165 with ⟨a1, a2⟩ | ⟨a1, a2⟩
              · exact .inl ⟨a1, tx_ct_pos a2 k hk0⟩
              · exact .inr ⟨a1, tx_ct_ltk a2 k hk0⟩
            refine wk_aload_n xd_b57bf42b rfl ?_
            refine wk_iload_n xd_33abb742 rfl ?_
            refine wk_if xd_960cde3d (t := 320) rfl (fun h300_0 => ?_) (fun h300_0 => ?_)
            · have h300_0 := aw_eq_t (a := ((za).toInt : Int)) (b := (0 : Int)) rfl hb_z h300_0
              refine wk_iconst xd_e8b0bb68 ?_
              refine wk_goto xd_8b164cab (t := 333) rfl ?_
              refine wk_putI xf_99f07650 (fun ci => wk_fitI ci) xd_95cbaa7f ?_
              refine wk_return xd_ca27e852 xr_dab1a612 ⟨_, rfl, rm_S_tr (rm_S_u1 (rm_S_u2 (rm_S_u1 (rm_S_u1 hS (by omega)) (by omega)) (by omega)) (by omega)) (rm_S_u1 hS8 (by omega)), ?_⟩
              rw [tx_tk_run hs (by omega) (by omega) han hre]
              rw [show tx_rn T q k = (4, q, q + k, 0, 0) from (if_neg (by omega)).trans (if_neg (by omega))]
              exact ⟨by rw [hs_u1_ne (by omega)]; exact ha7, by rw [hs_u1_self]; exact (by decide : (Int32.ofInt 4).toInt = ((4 : Nat) : Int)), .inr (.inr (.inr (.inr rfl)))⟩
            · have h300_0 := aw_eq_f (a := ((za).toInt : Int)) (b := (0 : Int)) rfl hb_z h300_0
              refine wk_aload_n xd_358447a7 rfl ?_
              refine wk_getI xf_20544c99 xd_d85caa8b ?_
              refine wk_iload_n xd_151b6639 rfl ?_
              refine wk_if xd_9add5ff3 (t := 316) rfl (fun h308_1 => ?_) (fun h308_1 => ?_)
              · have h308_1 := aw_eq_t (a := ((s165).toInt : Int)) (b := (0 : Int)) rfl hb_z h308_1
                refine wk_iconst xd_5e8404c5 ?_
                refine wk_icmp xd_51bf33bd (t := 324) rfl (fun h317_2 => ?_) (fun h317_2 => ?_)
                · have h317_2 := aw_le_t (a := ((k : Int) : Int)) (b := (3 : Int)) (show ((w8.1 184 13)).toInt = ((k : Int) : Int) from hsp8) (show ((Int32.ofInt 3)).toInt = 3 from by decide) h317_2
                  refine wk_iload_n xd_bac5930b rfl ?_
                  refine wk_if xd_5d35e355 (t := 332) rfl (fun h325_3 => ?_) (fun h325_3 => ?_)
                  · have h325_3 := aw_eq_t (a := ((s165).toInt : Int)) (b := (0 : Int)) rfl hb_z h325_3
                    refine wk_iconst xd_d2d36d9c ?_
                    refine wk_putI xf_99f07650 (fun ci => wk_fitI ci) xd_95cbaa7f ?_
                    refine wk_return xd_ca27e852 xr_dab1a612 ⟨_, rfl, rm_S_tr (rm_S_u1 (rm_S_u2 (rm_S_u1 (rm_S_u1 hS (by omega)) (by omega)) (by omega)) (by omega)) (rm_S_u1 hS8 (by omega)), ?_⟩
                    rw [tx_tk_run hs (by omega) (by omega) han hre]
                    have hct : tx_ct T q k = 0 := by omega
                    have hb9 := tx_nu_b (T := T) (s := q) k (fun j hj9 => by have h8 := hall8 j hj9; have h7 := tx_ct_none k hct j hj9; omega)
                    have hb8 : (10 : Int) ^ k ≤ 10 ^ 3 := tx_pow (by omega)
                    rw [show tx_rn T q k = (2, q, q + k, tx_nu T q k, 0) from (if_neg (by omega)).trans (if_pos (by omega))]
                    exact ⟨by rw [hs_u1_ne (by omega)]; exact ha7, by rw [hs_u1_self]; exact (by decide : (Int32.ofInt 2).toInt = ((2 : Nat) : Int)), .inr (.inr (.inl ⟨rfl, by rw [hs_u1_ne (by omega), hat8]; exact (Int.natCast_add q k).symm, by rw [hs_u1_ne (by omega), hnu8 hct (by omega)]; exact Int32.toInt_ofInt_of_le (by have := hb9.1; omega) (by omega), hb9.1, (show tx_nu T q k ≤ 999 from by omega)⟩))⟩
                  · have h325_3 := aw_eq_f (a := ((s165).toInt : Int)) (b := (0 : Int)) rfl hb_z h325_3
                    refine wk_iconst xd_99131218 ?_
                    refine wk_goto xd_d7f409b7 (t := 333) rfl ?_
                    refine wk_putI xf_99f07650 (fun ci => wk_fitI ci) xd_95cbaa7f ?_
                    refine wk_return xd_ca27e852 xr_dab1a612 ⟨_, rfl, rm_S_tr (rm_S_u1 (rm_S_u2 (rm_S_u1 (rm_S_u1 hS (by omega)) (by omega)) (by omega)) (by omega)) (rm_S_u1 hS8 (by omega)), ?_⟩
                    rw [tx_tk_run hs (by omega) (by omega) han hre]
                    have hct : tx_ct T q k = k := by omega
                    have hk7 : k ≤ 7 := by omega
                    rw [show tx_rn T q k = (1, q, q + k, 0, tx_cd T q k) from if_pos ⟨hct, hk7⟩]
                    exact ⟨by rw [hs_u1_ne (by omega)]; exact ha7, by rw [hs_u1_self]; exact (by decide : (Int32.ofInt 1).toInt = ((1 : Nat) : Int)), .inr (.inl ⟨rfl, by rw [hs_u1_ne (by omega), hat8]; exact (Int.natCast_add q k).symm, hwd8 hct hk7, Nat.lt_of_lt_of_le (tx_cd_lt k (tx_ct_all k hct)) (Nat.pow_le_pow_right (by decide) hk7)⟩)⟩
                · have h317_2 := aw_le_f (a := ((k : Int) : Int)) (b := (3 : Int)) (show ((w8.1 184 13)).toInt = ((k : Int) : Int) from hsp8) (show ((Int32.ofInt 3)).toInt = 3 from by decide) h317_2
                  refine wk_iconst xd_e8b0bb68 ?_
                  refine wk_goto xd_8b164cab (t := 333) rfl ?_
                  refine wk_putI xf_99f07650 (fun ci => wk_fitI ci) xd_95cbaa7f ?_
                  refine wk_return xd_ca27e852 xr_dab1a612 ⟨_, rfl, rm_S_tr (rm_S_u1 (rm_S_u2 (rm_S_u1 (rm_S_u1 hS (by omega)) (by omega)) (by omega)) (by omega)) (rm_S_u1 hS8 (by omega)), ?_⟩
                  rw [tx_tk_run hs (by omega) (by omega) han hre]
                  rw [show tx_rn T q k = (4, q, q + k, 0, 0) from (if_neg (by omega)).trans (if_neg (by omega))]
                  exact ⟨by rw [hs_u1_ne (by omega)]; exact ha7, by rw [hs_u1_self]; exact (by decide : (Int32.ofInt 4).toInt = ((4 : Nat) : Int)), .inr (.inr (.inr (.inr rfl)))⟩
              · have h308_1 := aw_eq_f (a := ((s165).toInt : Int)) (b := (0 : Int)) rfl hb_z h308_1
                refine wk_bipush xd_2e83c37f ?_
                refine wk_goto xd_fbff2b6a (t := 317) rfl ?_
                refine wk_icmp xd_51bf33bd (t := 324) rfl (fun h317_4 => ?_) (fun h317_4 => ?_)
                · have h317_4 := aw_le_t (a := ((k : Int) : Int)) (b := (7 : Int)) (show ((w8.1 184 13)).toInt = ((k : Int) : Int) from hsp8) (show (((Int8.ofInt 7).toInt32)).toInt = 7 from by decide) h317_4
                  refine wk_iload_n xd_bac5930b rfl ?_
                  refine wk_if xd_5d35e355 (t := 332) rfl (fun h325_5 => ?_) (fun h325_5 => ?_)
                  · have h325_5 := aw_eq_t (a := ((s165).toInt : Int)) (b := (0 : Int)) rfl hb_z h325_5
                    refine wk_iconst xd_d2d36d9c ?_
                    refine wk_putI xf_99f07650 (fun ci => wk_fitI ci) xd_95cbaa7f ?_
                    refine wk_return xd_ca27e852 xr_dab1a612 ⟨_, rfl, rm_S_tr (rm_S_u1 (rm_S_u2 (rm_S_u1 (rm_S_u1 hS (by omega)) (by omega)) (by omega)) (by omega)) (rm_S_u1 hS8 (by omega)), ?_⟩
                    rw [tx_tk_run hs (by omega) (by omega) han hre]
                    have hct : tx_ct T q k = 0 := by omega
                    have hb9 := tx_nu_b (T := T) (s := q) k (fun j hj9 => by have h8 := hall8 j hj9; have h7 := tx_ct_none k hct j hj9; omega)
                    have hb8 : (10 : Int) ^ k ≤ 10 ^ 3 := tx_pow (by omega)
                    rw [show tx_rn T q k = (2, q, q + k, tx_nu T q k, 0) from (if_neg (by omega)).trans (if_pos (by omega))]
                    exact ⟨by rw [hs_u1_ne (by omega)]; exact ha7, by rw [hs_u1_self]; exact (by decide : (Int32.ofInt 2).toInt = ((2 : Nat) : Int)), .inr (.inr (.inl ⟨rfl, by rw [hs_u1_ne (by omega), hat8]; exact (Int.natCast_add q k).symm, by rw [hs_u1_ne (by omega), hnu8 hct (by omega)]; exact Int32.toInt_ofInt_of_le (by have := hb9.1; omega) (by omega), hb9.1, (show tx_nu T q k ≤ 999 from by omega)⟩))⟩
                  · have h325_5 := aw_eq_f (a := ((s165).toInt : Int)) (b := (0 : Int)) rfl hb_z h325_5
                    refine wk_iconst xd_99131218 ?_
                    refine wk_goto xd_d7f409b7 (t := 333) rfl ?_
                    refine wk_putI xf_99f07650 (fun ci => wk_fitI ci) xd_95cbaa7f ?_
                    refine wk_return xd_ca27e852 xr_dab1a612 ⟨_, rfl, rm_S_tr (rm_S_u1 (rm_S_u2 (rm_S_u1 (rm_S_u1 hS (by omega)) (by omega)) (by omega)) (by omega)) (rm_S_u1 hS8 (by omega)), ?_⟩
                    rw [tx_tk_run hs (by omega) (by omega) han hre]
                    have hct : tx_ct T q k = k := by omega
                    have hk7 : k ≤ 7 := by omega
                    rw [show tx_rn T q k = (1, q, q + k, 0, tx_cd T q k) from if_pos ⟨hct, hk7⟩]
                    exact ⟨by rw [hs_u1_ne (by omega)]; exact ha7, by rw [hs_u1_self]; exact (by decide : (Int32.ofInt 1).toInt = ((1 : Nat) : Int)), .inr (.inl ⟨rfl, by rw [hs_u1_ne (by omega), hat8]; exact (Int.natCast_add q k).symm, hwd8 hct hk7, Nat.lt_of_lt_of_le (tx_cd_lt k (tx_ct_all k hct)) (Nat.pow_le_pow_right (by decide) hk7)⟩)⟩
                · have h317_4 := aw_le_f (a := ((k : Int) : Int)) (b := (7 : Int)) (show ((w8.1 184 13)).toInt = ((k : Int) : Int) from hsp8) (show (((Int8.ofInt 7).toInt32)).toInt = 7 from by decide) h317_4
                  refine wk_iconst xd_e8b0bb68 ?_
                  refine wk_goto xd_8b164cab (t := 333) rfl ?_
                  refine wk_putI xf_99f07650 (fun ci => wk_fitI ci) xd_95cbaa7f ?_
                  refine wk_return xd_ca27e852 xr_dab1a612 ⟨_, rfl, rm_S_tr (rm_S_u1 (rm_S_u2 (rm_S_u1 (rm_S_u1 hS (by omega)) (by omega)) (by omega)) (by omega)) (rm_S_u1 hS8 (by omega)), ?_⟩
                  rw [tx_tk_run hs (by omega) (by omega) han hre]
                  rw [show tx_rn T q k = (4, q, q + k, 0, 0) from (if_neg (by omega)).trans (if_neg (by omega))]
                  exact ⟨by rw [hs_u1_ne (by omega)]; exact ha7, by rw [hs_u1_self]; exact (by decide : (Int32.ofInt 4).toInt = ((4 : Nat) : Int)), .inr (.inr (.inr (.inr rfl)))⟩
          · exact ((show (((cm_u1 (cm_u2 (cm_u1 (cm_u1 w9 184 12 (w9.1 184 4)) 184 13 (Int32.ofInt 0)) 184 17 (Int64.ofNat 0)) 184 14 (Int32.ofInt 0)).1 184 4)).toInt = ((q : Int) : Int) from hat)).trans (by omega)
          · exact ((show (((cm_u1 (cm_u2 (cm_u1 (cm_u1 w9 184 12 (w9.1 184 4)) 184 13 (Int32.ofInt 0)) 184 17 (Int64.ofNat 0)) 184 14 (Int32.ofInt 0)).1 184 13)).toInt = (0 : Int) from (show ((Int32.ofInt 0)).toInt = 0 from by decide))).trans (by omega)
          · have e1 : (Int32.ofInt 1).toInt = 1 := by decide
            have e2 : tx_ct T q 0 = 0 := rfl
            omega
          · exact fun _ _ => tx_u2_through
          · exact fun _ _ => hs_u1_self
          · exact fun j a => absurd a (Nat.not_lt_zero j)
          · omega
        · have h99_2 := aw_ne_f (a := ((s96).toInt : Int)) (b := (0 : Int)) rfl hb_z h99_2
          refine wk_iload_n xd_59f271f3 rfl ?_
          obtain ⟨d103, hCd103, hd103⟩ := md_ok (w := (cm_u1 (cm_u1 w9 184 12 (w9.1 184 4)) 184 13 (Int32.ofInt 0))) (c := ((rm_b T n q) : Int)) hx81
          refine wk_call (kd := 1) (i := 157) xd_9c8c5e74 rfl (wk_cal (as := [.inl x81]) (t := []) xl_87ac4868 rfl xn_11227084 xc_3cc433d4 rfl rfl rfl rfl) (cm_C_mono (by omega) hCd103) ?_
          refine wk_if xd_bb8bebc7 (t := 164) rfl (fun h106_3 => ?_) (fun h106_3 => ?_)
          · have h106_3 := aw_ne_t (a := ((d103).toInt : Int)) (b := (0 : Int)) rfl hb_z h106_3
            refine wk_iload_n xd_040551d9 rfl ?_
            obtain ⟨s165, hCs165, hs165⟩ := ms_ok (w := (cm_u1 (cm_u1 w9 184 12 (w9.1 184 4)) 184 13 (Int32.ofInt 0))) (c := ((rm_b T n q) : Int)) hx81
            refine wk_call (kd := 1) (i := 153) xd_c61ec062 rfl (wk_cal (as := [.inl x81]) (t := []) xl_ea921303 rfl xn_97b6022a xc_e24ee852 rfl rfl rfl rfl) (cm_C_mono (by omega) hCs165) ?_
            refine wk_istore_n xd_66b45b65 (by rw [xm_0c78751a]; rfl) rfl ?_
            refine wk_iconst xd_575c1b44 ?_
            refine wk_istore_n xd_2c52de65 (by rw [xm_0c78751a]; rfl) rfl ?_
            refine wk_aload_n xd_796c8564 rfl ?_
            refine aw_lconst xd_e9d72470 ?_
            refine aw_putL xf_d434a2b6 (fun _ => rfl) xd_36d5337e ?_
            refine wk_aload_n xd_0fd51dca rfl ?_
            refine wk_iconst xd_3afda4a0 ?_
            refine wk_putI xf_955f6076 (fun ci => wk_fitI ci) xd_d60b89ea ?_
            have han : tx_Sm (T (q + 0)) ∨ tx_Dg (T (q + 0)) := by
              show tx_Sm (T q) ∨ tx_Dg (T q)
              rw [hq9] at hs96 hd103
              omega
            rw [hq9] at hs165
            refine mn_loop (w0 := (cm_u1 (cm_u2 (cm_u1 (cm_u1 w9 184 12 (w9.1 184 4)) 184 13 (Int32.ofInt 0)) 184 17 (Int64.ofNat 0)) 184 14 (Int32.ofInt 0))) (zs := s165) (b := q) (rm_T_S hT (rm_S_u1 (rm_S_u2 (rm_S_u1 (rm_S_u1 hS (by omega)) (by omega)) (by omega)) (by omega))) _ (fun w8 k za hI hE8 => ?_) (n + 1) 0 _ _ (by omega) ⟨?_, ?_, rm_S_rf _, rfl, ?_, ?_, ?_, ?_, ?_⟩
            · obtain ⟨hat8, hsp8, hS8, ha8, hza8, hwd8, hnu8, hall8, hle8⟩ := hI
              have hl := tx_ct_le T q k
              have hk0 : 1 ≤ k := by
                rcases Nat.eq_zero_or_pos k with e | e
                · subst e
                  rcases hE8 with h | h
                  · omega
                  · exact absurd han h
                · exact e
              have hre : tx_re T n q = q + k := tx_re_eq (by omega) (.inl hle8) (fun j a c => by have h8 := hall8 (j - q) (by omega); rw [show q + (j - q) = j from by omega] at h8; exact h8) hE8
              have ha7 : (w8.1 184 12).toInt = (q : Int) := by
                rw [ha8]
                exact ((show (((cm_u1 (cm_u2 (cm_u1 (cm_u1 w9 184 12 (w9.1 184 4)) 184 13 (Int32.ofInt 0)) 184 17 (Int64.ofNat 0)) 184 14 (Int32.ofInt 0)).1 184 12)).toInt = ((q : Int) : Int) from (show ((w9.1 184 4)).toInt = ((q : Int) : Int) from hat))).trans (by omega)
              have hcp : ((s165).toInt = 1 ∧ 1 ≤ tx_ct T q k) ∨ ((s165).toInt = 0 ∧ tx_ct T q k < k) := by
                rcases hs165 with ⟨a1, a2⟩ | ⟨a1, a2⟩
                · exact .inl ⟨a1, tx_ct_pos a2 k hk0⟩
                · exact .inr ⟨a1, tx_ct_ltk a2 k hk0⟩
              refine wk_aload_n xd_b57bf42b rfl ?_
              refine wk_iload_n xd_33abb742 rfl ?_
              refine wk_if xd_960cde3d (t := 320) rfl (fun h300_0 => ?_) (fun h300_0 => ?_)
              · have h300_0 := aw_eq_t (a := ((za).toInt : Int)) (b := (0 : Int)) rfl hb_z h300_0
                refine wk_iconst xd_e8b0bb68 ?_
                refine wk_goto xd_8b164cab (t := 333) rfl ?_
                refine wk_putI xf_99f07650 (fun ci => wk_fitI ci) xd_95cbaa7f ?_
                refine wk_return xd_ca27e852 xr_dab1a612 ⟨_, rfl, rm_S_tr (rm_S_u1 (rm_S_u2 (rm_S_u1 (rm_S_u1 hS (by omega)) (by omega)) (by omega)) (by omega)) (rm_S_u1 hS8 (by omega)), ?_⟩
                rw [tx_tk_run hs (by omega) (by omega) han hre]
                rw [show tx_rn T q k = (4, q, q + k, 0, 0) from (if_neg (by omega)).trans (if_neg (by omega))]
                exact ⟨by rw [hs_u1_ne (by omega)]; exact ha7, by rw [hs_u1_self]; exact (by decide : (Int32.ofInt 4).toInt = ((4 : Nat) : Int)), .inr (.inr (.inr (.inr rfl)))⟩
              · have h300_0 := aw_eq_f (a := ((za).toInt : Int)) (b := (0 : Int)) rfl hb_z h300_0
                refine wk_aload_n xd_358447a7 rfl ?_
                refine wk_getI xf_20544c99 xd_d85caa8b ?_
                refine wk_iload_n xd_151b6639 rfl ?_
                refine wk_if xd_9add5ff3 (t := 316) rfl (fun h308_1 => ?_) (fun h308_1 => ?_)
                · have h308_1 := aw_eq_t (a := ((s165).toInt : Int)) (b := (0 : Int)) rfl hb_z h308_1
                  refine wk_iconst xd_5e8404c5 ?_
                  refine wk_icmp xd_51bf33bd (t := 324) rfl (fun h317_2 => ?_) (fun h317_2 => ?_)
                  · have h317_2 := aw_le_t (a := ((k : Int) : Int)) (b := (3 : Int)) (show ((w8.1 184 13)).toInt = ((k : Int) : Int) from hsp8) (show ((Int32.ofInt 3)).toInt = 3 from by decide) h317_2
                    refine wk_iload_n xd_bac5930b rfl ?_
                    refine wk_if xd_5d35e355 (t := 332) rfl (fun h325_3 => ?_) (fun h325_3 => ?_)
                    · have h325_3 := aw_eq_t (a := ((s165).toInt : Int)) (b := (0 : Int)) rfl hb_z h325_3
                      refine wk_iconst xd_d2d36d9c ?_
                      refine wk_putI xf_99f07650 (fun ci => wk_fitI ci) xd_95cbaa7f ?_
                      refine wk_return xd_ca27e852 xr_dab1a612 ⟨_, rfl, rm_S_tr (rm_S_u1 (rm_S_u2 (rm_S_u1 (rm_S_u1 hS (by omega)) (by omega)) (by omega)) (by omega)) (rm_S_u1 hS8 (by omega)), ?_⟩
                      rw [tx_tk_run hs (by omega) (by omega) han hre]
                      have hct : tx_ct T q k = 0 := by omega
                      have hb9 := tx_nu_b (T := T) (s := q) k (fun j hj9 => by have h8 := hall8 j hj9; have h7 := tx_ct_none k hct j hj9; omega)
                      have hb8 : (10 : Int) ^ k ≤ 10 ^ 3 := tx_pow (by omega)
                      rw [show tx_rn T q k = (2, q, q + k, tx_nu T q k, 0) from (if_neg (by omega)).trans (if_pos (by omega))]
                      exact ⟨by rw [hs_u1_ne (by omega)]; exact ha7, by rw [hs_u1_self]; exact (by decide : (Int32.ofInt 2).toInt = ((2 : Nat) : Int)), .inr (.inr (.inl ⟨rfl, by rw [hs_u1_ne (by omega), hat8]; exact (Int.natCast_add q k).symm, by rw [hs_u1_ne (by omega), hnu8 hct (by omega)]; exact Int32.toInt_ofInt_of_le (by have := hb9.1; omega) (by omega), hb9.1, (show tx_nu T q k ≤ 999 from by omega)⟩))⟩
                    · have h325_3 := aw_eq_f (a := ((s165).toInt : Int)) (b := (0 : Int)) rfl hb_z h325_3
                      refine wk_iconst xd_99131218 ?_
                      refine wk_goto xd_d7f409b7 (t := 333) rfl ?_
                      refine wk_putI xf_99f07650 (fun ci => wk_fitI ci) xd_95cbaa7f ?_
                      refine wk_return xd_ca27e852 xr_dab1a612 ⟨_, rfl, rm_S_tr (rm_S_u1 (rm_S_u2 (rm_S_u1 (rm_S_u1 hS (by omega)) (by omega)) (by omega)) (by omega)) (rm_S_u1 hS8 (by omega)), ?_⟩
                      rw [tx_tk_run hs (by omega) (by omega) han hre]
                      have hct : tx_ct T q k = k := by omega
                      have hk7 : k ≤ 7 := by omega
                      rw [show tx_rn T q k = (1, q, q + k, 0, tx_cd T q k) from if_pos ⟨hct, hk7⟩]
                      exact ⟨by rw [hs_u1_ne (by omega)]; exact ha7, by rw [hs_u1_self]; exact (by decide : (Int32.ofInt 1).toInt = ((1 : Nat) : Int)), .inr (.inl ⟨rfl, by rw [hs_u1_ne (by omega), hat8]; exact (Int.natCast_add q k).symm, hwd8 hct hk7, Nat.lt_of_lt_of_le (tx_cd_lt k (tx_ct_all k hct)) (Nat.pow_le_pow_right (by decide) hk7)⟩)⟩
                  · have h317_2 := aw_le_f (a := ((k : Int) : Int)) (b := (3 : Int)) (show ((w8.1 184 13)).toInt = ((k : Int) : Int) from hsp8) (show ((Int32.ofInt 3)).toInt = 3 from by decide) h317_2
                    refine wk_iconst xd_e8b0bb68 ?_
                    refine wk_goto xd_8b164cab (t := 333) rfl ?_
                    refine wk_putI xf_99f07650 (fun ci => wk_fitI ci) xd_95cbaa7f ?_
                    refine wk_return xd_ca27e852 xr_dab1a612 ⟨_, rfl, rm_S_tr (rm_S_u1 (rm_S_u2 (rm_S_u1 (rm_S_u1 hS (by omega)) (by omega)) (by omega)) (by omega)) (rm_S_u1 hS8 (by omega)), ?_⟩
                    rw [tx_tk_run hs (by omega) (by omega) han hre]
                    rw [show tx_rn T q k = (4, q, q + k, 0, 0) from (if_neg (by omega)).trans (if_neg (by omega))]
                    exact ⟨by rw [hs_u1_ne (by omega)]; exact ha7, by rw [hs_u1_self]; exact (by decide : (Int32.ofInt 4).toInt = ((4 : Nat) : Int)), .inr (.inr (.inr (.inr rfl)))⟩
                · have h308_1 := aw_eq_f (a := ((s165).toInt : Int)) (b := (0 : Int)) rfl hb_z h308_1
                  refine wk_bipush xd_2e83c37f ?_
                  refine wk_goto xd_fbff2b6a (t := 317) rfl ?_
                  refine wk_icmp xd_51bf33bd (t := 324) rfl (fun h317_4 => ?_) (fun h317_4 => ?_)
                  · have h317_4 := aw_le_t (a := ((k : Int) : Int)) (b := (7 : Int)) (show ((w8.1 184 13)).toInt = ((k : Int) : Int) from hsp8) (show (((Int8.ofInt 7).toInt32)).toInt = 7 from by decide) h317_4
                    refine wk_iload_n xd_bac5930b rfl ?_
                    refine wk_if xd_5d35e355 (t := 332) rfl (fun h325_5 => ?_) (fun h325_5 => ?_)
                    · have h325_5 := aw_eq_t (a := ((s165).toInt : Int)) (b := (0 : Int)) rfl hb_z h325_5
                      refine wk_iconst xd_d2d36d9c ?_
                      refine wk_putI xf_99f07650 (fun ci => wk_fitI ci) xd_95cbaa7f ?_
                      refine wk_return xd_ca27e852 xr_dab1a612 ⟨_, rfl, rm_S_tr (rm_S_u1 (rm_S_u2 (rm_S_u1 (rm_S_u1 hS (by omega)) (by omega)) (by omega)) (by omega)) (rm_S_u1 hS8 (by omega)), ?_⟩
                      rw [tx_tk_run hs (by omega) (by omega) han hre]
                      have hct : tx_ct T q k = 0 := by omega
                      have hb9 := tx_nu_b (T := T) (s := q) k (fun j hj9 => by have h8 := hall8 j hj9; have h7 := tx_ct_none k hct j hj9; omega)
                      have hb8 : (10 : Int) ^ k ≤ 10 ^ 3 := tx_pow (by omega)
                      rw [show tx_rn T q k = (2, q, q + k, tx_nu T q k, 0) from (if_neg (by omega)).trans (if_pos (by omega))]
                      exact ⟨by rw [hs_u1_ne (by omega)]; exact ha7, by rw [hs_u1_self]; exact (by decide : (Int32.ofInt 2).toInt = ((2 : Nat) : Int)), .inr (.inr (.inl ⟨rfl, by rw [hs_u1_ne (by omega), hat8]; exact (Int.natCast_add q k).symm, by rw [hs_u1_ne (by omega), hnu8 hct (by omega)]; exact Int32.toInt_ofInt_of_le (by have := hb9.1; omega) (by omega), hb9.1, (show tx_nu T q k ≤ 999 from by omega)⟩))⟩
                    · have h325_5 := aw_eq_f (a := ((s165).toInt : Int)) (b := (0 : Int)) rfl hb_z h325_5
                      refine wk_iconst xd_99131218 ?_
                      refine wk_goto xd_d7f409b7 (t := 333) rfl ?_
                      refine wk_putI xf_99f07650 (fun ci => wk_fitI ci) xd_95cbaa7f ?_
                      refine wk_return xd_ca27e852 xr_dab1a612 ⟨_, rfl, rm_S_tr (rm_S_u1 (rm_S_u2 (rm_S_u1 (rm_S_u1 hS (by omega)) (by omega)) (by omega)) (by omega)) (rm_S_u1 hS8 (by omega)), ?_⟩
                      rw [tx_tk_run hs (by omega) (by omega) han hre]
                      have hct : tx_ct T q k = k := by omega
                      have hk7 : k ≤ 7 := by omega
                      rw [show tx_rn T q k = (1, q, q + k, 0, tx_cd T q k) from if_pos ⟨hct, hk7⟩]
                      exact ⟨by rw [hs_u1_ne (by omega)]; exact ha7, by rw [hs_u1_self]; exact (by decide : (Int32.ofInt 1).toInt = ((1 : Nat) : Int)), .inr (.inl ⟨rfl, by rw [hs_u1_ne (by omega), hat8]; exact (Int.natCast_add q k).symm, hwd8 hct hk7, Nat.lt_of_lt_of_le (tx_cd_lt k (tx_ct_all k hct)) (Nat.pow_le_pow_right (by decide) hk7)⟩)⟩
                  · have h317_4 := aw_le_f (a := ((k : Int) : Int)) (b := (7 : Int)) (show ((w8.1 184 13)).toInt = ((k : Int) : Int) from hsp8) (show (((Int8.ofInt 7).toInt32)).toInt = 7 from by decide) h317_4
                    refine wk_iconst xd_e8b0bb68 ?_
                    refine wk_goto xd_8b164cab (t := 333) rfl ?_
                    refine wk_putI xf_99f07650 (fun ci => wk_fitI ci) xd_95cbaa7f ?_
                    refine wk_return xd_ca27e852 xr_dab1a612 ⟨_, rfl, rm_S_tr (rm_S_u1 (rm_S_u2 (rm_S_u1 (rm_S_u1 hS (by omega)) (by omega)) (by omega)) (by omega)) (rm_S_u1 hS8 (by omega)), ?_⟩
                    rw [tx_tk_run hs (by omega) (by omega) han hre]
                    rw [show tx_rn T q k = (4, q, q + k, 0, 0) from (if_neg (by omega)).trans (if_neg (by omega))]
                    exact ⟨by rw [hs_u1_ne (by omega)]; exact ha7, by rw [hs_u1_self]; exact (by decide : (Int32.ofInt 4).toInt = ((4 : Nat) : Int)), .inr (.inr (.inr (.inr rfl)))⟩
            · exact ((show (((cm_u1 (cm_u2 (cm_u1 (cm_u1 w9 184 12 (w9.1 184 4)) 184 13 (Int32.ofInt 0)) 184 17 (Int64.ofNat 0)) 184 14 (Int32.ofInt 0)).1 184 4)).toInt = ((q : Int) : Int) from hat)).trans (by omega)
            · exact ((show (((cm_u1 (cm_u2 (cm_u1 (cm_u1 w9 184 12 (w9.1 184 4)) 184 13 (Int32.ofInt 0)) 184 17 (Int64.ofNat 0)) 184 14 (Int32.ofInt 0)).1 184 13)).toInt = (0 : Int) from (show ((Int32.ofInt 0)).toInt = 0 from by decide))).trans (by omega)
            · have e1 : (Int32.ofInt 1).toInt = 1 := by decide
              have e2 : tx_ct T q 0 = 0 := rfl
              omega
            · exact fun _ _ => tx_u2_through
            · exact fun _ _ => hs_u1_self
            · exact fun j a => absurd a (Nat.not_lt_zero j)
            · omega
          · have h106_3 := aw_ne_f (a := ((d103).toInt : Int)) (b := (0 : Int)) rfl hb_z h106_3
            refine wk_aload_n xd_48cdf135 rfl ?_
            refine wk_iload_n xd_3541c73d rfl ?_
            refine wk_bipush xd_d9c80417 ?_
            refine wk_icmp xd_ac13d367 (t := 140) rfl (fun h113_4 => ?_) (fun h113_4 => ?_)
            · have h113_4 := aw_eq_t (a := ((rm_b T n q) : Int)) (b := (59 : Int)) hx81 (show (((Int8.ofInt 59).toInt32)).toInt = 59 from by decide) h113_4
              refine wk_iconst xd_6e61d90d ?_
              refine wk_goto xd_92421343 (t := 145) rfl ?_
              refine wk_putI xf_99f07650 (fun ci => wk_fitI ci) xd_7babcb72 ?_
              refine wk_aload_n xd_bab885be rfl ?_
              refine wk_iload_n xd_46a895b7 rfl ?_
              refine wk_putI xf_955f6076 (fun ci => wk_fitI ci) xd_5e3a92d4 ?_
              refine wk_aload_n xd_4dc19a82 rfl ?_
              refine wk_dup_r xd_62d66c3c ?_
              refine wk_getI xf_e747bbb5 xd_b70adbae ?_
              refine wk_iconst xd_369146b9 ?_
              refine aw_iadd (a := ((q : Int) : Int)) (b := (1 : Int)) (e := ((q : Int) + 1 : Int)) xd_616f024e (show (((cm_u1 (cm_u1 (cm_u1 (cm_u1 w9 184 12 (w9.1 184 4)) 184 13 (Int32.ofInt 0)) 184 11 (Int32.ofInt 3)) 184 14 x81).1 184 4)).toInt = ((q : Int) : Int) from hat) (show ((Int32.ofInt 1)).toInt = 1 from by decide) (by omega) (by omega) (by omega) (fun v6_ p6_ => ?_)
              refine wk_putI xf_a934f3ff (fun ci => wk_fitI ci) xd_a2ba409a ?_
              refine wk_return xd_e11b4b5e xr_dab1a612 ⟨_, rfl, (rm_S_u1 (rm_S_u1 (rm_S_u1 (rm_S_u1 (rm_S_u1 hS (by omega)) (by omega)) (by omega)) (by omega)) (by omega)), ?_⟩
              rw [hq9] at hs96 hd103
              have hnan : ¬ (tx_Sm (T q) ∨ tx_Dg (T q)) := by
                intro h
                omega
              rw [tx_tk_sign hs (by omega) (by omega) hnan, if_pos (by omega)]
              exact ⟨((show (((cm_u1 (cm_u1 (cm_u1 (cm_u1 (cm_u1 w9 184 12 (w9.1 184 4)) 184 13 (Int32.ofInt 0)) 184 11 (Int32.ofInt 3)) 184 14 x81) 184 4 v6_).1 184 12)).toInt = ((q : Int) : Int) from (show ((w9.1 184 4)).toInt = ((q : Int) : Int) from hat))).trans (by first | omega | rfl | (dsimp only; omega)), ((show (((cm_u1 (cm_u1 (cm_u1 (cm_u1 (cm_u1 w9 184 12 (w9.1 184 4)) 184 13 (Int32.ofInt 0)) 184 11 (Int32.ofInt 3)) 184 14 x81) 184 4 v6_).1 184 11)).toInt = (3 : Int) from (show ((Int32.ofInt 3)).toInt = 3 from by decide))).trans (by first | omega | rfl | (dsimp only; omega)), .inr (.inr (.inr (.inl ⟨rfl, ((show (((cm_u1 (cm_u1 (cm_u1 (cm_u1 (cm_u1 w9 184 12 (w9.1 184 4)) 184 13 (Int32.ofInt 0)) 184 11 (Int32.ofInt 3)) 184 14 x81) 184 4 v6_).1 184 4)).toInt = ((q : Int) + 1 : Int) from p6_)).trans (by first | omega | rfl | (dsimp only; omega)), ((show (((cm_u1 (cm_u1 (cm_u1 (cm_u1 (cm_u1 w9 184 12 (w9.1 184 4)) 184 13 (Int32.ofInt 0)) 184 11 (Int32.ofInt 3)) 184 14 x81) 184 4 v6_).1 184 14)).toInt = ((rm_b T n q) : Int) from hx81)).trans (by first | omega | rfl | (dsimp only; omega))⟩)))⟩
            · have h113_4 := aw_eq_f (a := ((rm_b T n q) : Int)) (b := (59 : Int)) hx81 (show (((Int8.ofInt 59).toInt32)).toInt = 59 from by decide) h113_4
              refine wk_iload_n xd_d88bb547 rfl ?_
              refine wk_bipush xd_f24ec7b9 ?_
              refine wk_icmp xd_2d973415 (t := 140) rfl (fun h119_6 => ?_) (fun h119_6 => ?_)
              · have h119_6 := aw_eq_t (a := ((rm_b T n q) : Int)) (b := (40 : Int)) hx81 (show (((Int8.ofInt 40).toInt32)).toInt = 40 from by decide) h119_6
                refine wk_iconst xd_6e61d90d ?_
                refine wk_goto xd_92421343 (t := 145) rfl ?_
                refine wk_putI xf_99f07650 (fun ci => wk_fitI ci) xd_7babcb72 ?_
                refine wk_aload_n xd_bab885be rfl ?_
                refine wk_iload_n xd_46a895b7 rfl ?_
                refine wk_putI xf_955f6076 (fun ci => wk_fitI ci) xd_5e3a92d4 ?_
                refine wk_aload_n xd_4dc19a82 rfl ?_
                refine wk_dup_r xd_62d66c3c ?_
                refine wk_getI xf_e747bbb5 xd_b70adbae ?_
                refine wk_iconst xd_369146b9 ?_
                refine aw_iadd (a := ((q : Int) : Int)) (b := (1 : Int)) (e := ((q : Int) + 1 : Int)) xd_616f024e (show (((cm_u1 (cm_u1 (cm_u1 (cm_u1 w9 184 12 (w9.1 184 4)) 184 13 (Int32.ofInt 0)) 184 11 (Int32.ofInt 3)) 184 14 x81).1 184 4)).toInt = ((q : Int) : Int) from hat) (show ((Int32.ofInt 1)).toInt = 1 from by decide) (by omega) (by omega) (by omega) (fun v8_ p8_ => ?_)
                refine wk_putI xf_a934f3ff (fun ci => wk_fitI ci) xd_a2ba409a ?_
                refine wk_return xd_e11b4b5e xr_dab1a612 ⟨_, rfl, (rm_S_u1 (rm_S_u1 (rm_S_u1 (rm_S_u1 (rm_S_u1 hS (by omega)) (by omega)) (by omega)) (by omega)) (by omega)), ?_⟩
                rw [hq9] at hs96 hd103
                have hnan : ¬ (tx_Sm (T q) ∨ tx_Dg (T q)) := by
                  intro h
                  omega
                rw [tx_tk_sign hs (by omega) (by omega) hnan, if_pos (by omega)]
                exact ⟨((show (((cm_u1 (cm_u1 (cm_u1 (cm_u1 (cm_u1 w9 184 12 (w9.1 184 4)) 184 13 (Int32.ofInt 0)) 184 11 (Int32.ofInt 3)) 184 14 x81) 184 4 v8_).1 184 12)).toInt = ((q : Int) : Int) from (show ((w9.1 184 4)).toInt = ((q : Int) : Int) from hat))).trans (by first | omega | rfl | (dsimp only; omega)), ((show (((cm_u1 (cm_u1 (cm_u1 (cm_u1 (cm_u1 w9 184 12 (w9.1 184 4)) 184 13 (Int32.ofInt 0)) 184 11 (Int32.ofInt 3)) 184 14 x81) 184 4 v8_).1 184 11)).toInt = (3 : Int) from (show ((Int32.ofInt 3)).toInt = 3 from by decide))).trans (by first | omega | rfl | (dsimp only; omega)), .inr (.inr (.inr (.inl ⟨rfl, ((show (((cm_u1 (cm_u1 (cm_u1 (cm_u1 (cm_u1 w9 184 12 (w9.1 184 4)) 184 13 (Int32.ofInt 0)) 184 11 (Int32.ofInt 3)) 184 14 x81) 184 4 v8_).1 184 4)).toInt = ((q : Int) + 1 : Int) from p8_)).trans (by first | omega | rfl | (dsimp only; omega)), ((show (((cm_u1 (cm_u1 (cm_u1 (cm_u1 (cm_u1 w9 184 12 (w9.1 184 4)) 184 13 (Int32.ofInt 0)) 184 11 (Int32.ofInt 3)) 184 14 x81) 184 4 v8_).1 184 14)).toInt = ((rm_b T n q) : Int) from hx81)).trans (by first | omega | rfl | (dsimp only; omega))⟩)))⟩
              · have h119_6 := aw_eq_f (a := ((rm_b T n q) : Int)) (b := (40 : Int)) hx81 (show (((Int8.ofInt 40).toInt32)).toInt = 40 from by decide) h119_6
                refine wk_iload_n xd_80c9bdfc rfl ?_
                refine wk_bipush xd_976ce6b2 ?_
                refine wk_icmp xd_f0f3978b (t := 140) rfl (fun h125_8 => ?_) (fun h125_8 => ?_)
                · have h125_8 := aw_eq_t (a := ((rm_b T n q) : Int)) (b := (41 : Int)) hx81 (show (((Int8.ofInt 41).toInt32)).toInt = 41 from by decide) h125_8
                  refine wk_iconst xd_6e61d90d ?_
                  refine wk_goto xd_92421343 (t := 145) rfl ?_
                  refine wk_putI xf_99f07650 (fun ci => wk_fitI ci) xd_7babcb72 ?_
                  refine wk_aload_n xd_bab885be rfl ?_
                  refine wk_iload_n xd_46a895b7 rfl ?_
                  refine wk_putI xf_955f6076 (fun ci => wk_fitI ci) xd_5e3a92d4 ?_
                  refine wk_aload_n xd_4dc19a82 rfl ?_
                  refine wk_dup_r xd_62d66c3c ?_
                  refine wk_getI xf_e747bbb5 xd_b70adbae ?_
                  refine wk_iconst xd_369146b9 ?_
                  refine aw_iadd (a := ((q : Int) : Int)) (b := (1 : Int)) (e := ((q : Int) + 1 : Int)) xd_616f024e (show (((cm_u1 (cm_u1 (cm_u1 (cm_u1 w9 184 12 (w9.1 184 4)) 184 13 (Int32.ofInt 0)) 184 11 (Int32.ofInt 3)) 184 14 x81).1 184 4)).toInt = ((q : Int) : Int) from hat) (show ((Int32.ofInt 1)).toInt = 1 from by decide) (by omega) (by omega) (by omega) (fun v10_ p10_ => ?_)
                  refine wk_putI xf_a934f3ff (fun ci => wk_fitI ci) xd_a2ba409a ?_
                  refine wk_return xd_e11b4b5e xr_dab1a612 ⟨_, rfl, (rm_S_u1 (rm_S_u1 (rm_S_u1 (rm_S_u1 (rm_S_u1 hS (by omega)) (by omega)) (by omega)) (by omega)) (by omega)), ?_⟩
                  rw [hq9] at hs96 hd103
                  have hnan : ¬ (tx_Sm (T q) ∨ tx_Dg (T q)) := by
                    intro h
                    omega
                  rw [tx_tk_sign hs (by omega) (by omega) hnan, if_pos (by omega)]
                  exact ⟨((show (((cm_u1 (cm_u1 (cm_u1 (cm_u1 (cm_u1 w9 184 12 (w9.1 184 4)) 184 13 (Int32.ofInt 0)) 184 11 (Int32.ofInt 3)) 184 14 x81) 184 4 v10_).1 184 12)).toInt = ((q : Int) : Int) from (show ((w9.1 184 4)).toInt = ((q : Int) : Int) from hat))).trans (by first | omega | rfl | (dsimp only; omega)), ((show (((cm_u1 (cm_u1 (cm_u1 (cm_u1 (cm_u1 w9 184 12 (w9.1 184 4)) 184 13 (Int32.ofInt 0)) 184 11 (Int32.ofInt 3)) 184 14 x81) 184 4 v10_).1 184 11)).toInt = (3 : Int) from (show ((Int32.ofInt 3)).toInt = 3 from by decide))).trans (by first | omega | rfl | (dsimp only; omega)), .inr (.inr (.inr (.inl ⟨rfl, ((show (((cm_u1 (cm_u1 (cm_u1 (cm_u1 (cm_u1 w9 184 12 (w9.1 184 4)) 184 13 (Int32.ofInt 0)) 184 11 (Int32.ofInt 3)) 184 14 x81) 184 4 v10_).1 184 4)).toInt = ((q : Int) + 1 : Int) from p10_)).trans (by first | omega | rfl | (dsimp only; omega)), ((show (((cm_u1 (cm_u1 (cm_u1 (cm_u1 (cm_u1 w9 184 12 (w9.1 184 4)) 184 13 (Int32.ofInt 0)) 184 11 (Int32.ofInt 3)) 184 14 x81) 184 4 v10_).1 184 14)).toInt = ((rm_b T n q) : Int) from hx81)).trans (by first | omega | rfl | (dsimp only; omega))⟩)))⟩
                · have h125_8 := aw_eq_f (a := ((rm_b T n q) : Int)) (b := (41 : Int)) hx81 (show (((Int8.ofInt 41).toInt32)).toInt = 41 from by decide) h125_8
                  refine wk_iload_n xd_6de62d33 rfl ?_
                  refine wk_bipush xd_0aebfec6 ?_
                  refine wk_icmp xd_fe20f744 (t := 144) rfl (fun h131_10 => ?_) (fun h131_10 => ?_)
                  · have h131_10 := aw_lt_t (a := ((rm_b T n q) : Int)) (b := (60 : Int)) hx81 (show (((Int8.ofInt 60).toInt32)).toInt = 60 from by decide) h131_10
                    refine wk_iconst xd_80e0961d ?_
                    refine wk_putI xf_99f07650 (fun ci => wk_fitI ci) xd_7babcb72 ?_
                    refine wk_aload_n xd_bab885be rfl ?_
                    refine wk_iload_n xd_46a895b7 rfl ?_
                    refine wk_putI xf_955f6076 (fun ci => wk_fitI ci) xd_5e3a92d4 ?_
                    refine wk_aload_n xd_4dc19a82 rfl ?_
                    refine wk_dup_r xd_62d66c3c ?_
                    refine wk_getI xf_e747bbb5 xd_b70adbae ?_
                    refine wk_iconst xd_369146b9 ?_
                    refine aw_iadd (a := ((q : Int) : Int)) (b := (1 : Int)) (e := ((q : Int) + 1 : Int)) xd_616f024e (show (((cm_u1 (cm_u1 (cm_u1 (cm_u1 w9 184 12 (w9.1 184 4)) 184 13 (Int32.ofInt 0)) 184 11 (Int32.ofInt 4)) 184 14 x81).1 184 4)).toInt = ((q : Int) : Int) from hat) (show ((Int32.ofInt 1)).toInt = 1 from by decide) (by omega) (by omega) (by omega) (fun v12_ p12_ => ?_)
                    refine wk_putI xf_a934f3ff (fun ci => wk_fitI ci) xd_a2ba409a ?_
                    refine wk_return xd_e11b4b5e xr_dab1a612 ⟨_, rfl, (rm_S_u1 (rm_S_u1 (rm_S_u1 (rm_S_u1 (rm_S_u1 hS (by omega)) (by omega)) (by omega)) (by omega)) (by omega)), ?_⟩
                    rw [hq9] at hs96 hd103
                    have hnan : ¬ (tx_Sm (T q) ∨ tx_Dg (T q)) := by
                      intro h
                      omega
                    rw [tx_tk_sign hs (by omega) (by omega) hnan, if_neg (by omega)]
                    exact ⟨((show (((cm_u1 (cm_u1 (cm_u1 (cm_u1 (cm_u1 w9 184 12 (w9.1 184 4)) 184 13 (Int32.ofInt 0)) 184 11 (Int32.ofInt 4)) 184 14 x81) 184 4 v12_).1 184 12)).toInt = ((q : Int) : Int) from (show ((w9.1 184 4)).toInt = ((q : Int) : Int) from hat))).trans (by first | omega | rfl | (dsimp only; omega)), ((show (((cm_u1 (cm_u1 (cm_u1 (cm_u1 (cm_u1 w9 184 12 (w9.1 184 4)) 184 13 (Int32.ofInt 0)) 184 11 (Int32.ofInt 4)) 184 14 x81) 184 4 v12_).1 184 11)).toInt = (4 : Int) from (show ((Int32.ofInt 4)).toInt = 4 from by decide))).trans (by first | omega | rfl | (dsimp only; omega)), .inr (.inr (.inr (.inr rfl)))⟩
                  · have h131_10 := aw_lt_f (a := ((rm_b T n q) : Int)) (b := (60 : Int)) hx81 (show (((Int8.ofInt 60).toInt32)).toInt = 60 from by decide) h131_10
                    refine wk_iload_n xd_ec26aaa1 rfl ?_
                    refine wk_bipush xd_f1eb2a34 ?_
                    refine wk_icmp xd_0818f0e3 (t := 144) rfl (fun h137_12 => ?_) (fun h137_12 => ?_)
                    · have h137_12 := aw_gt_t (a := ((rm_b T n q) : Int)) (b := (62 : Int)) hx81 (show (((Int8.ofInt 62).toInt32)).toInt = 62 from by decide) h137_12
                      refine wk_iconst xd_80e0961d ?_
                      refine wk_putI xf_99f07650 (fun ci => wk_fitI ci) xd_7babcb72 ?_
                      refine wk_aload_n xd_bab885be rfl ?_
                      refine wk_iload_n xd_46a895b7 rfl ?_
                      refine wk_putI xf_955f6076 (fun ci => wk_fitI ci) xd_5e3a92d4 ?_
                      refine wk_aload_n xd_4dc19a82 rfl ?_
                      refine wk_dup_r xd_62d66c3c ?_
                      refine wk_getI xf_e747bbb5 xd_b70adbae ?_
                      refine wk_iconst xd_369146b9 ?_
                      refine aw_iadd (a := ((q : Int) : Int)) (b := (1 : Int)) (e := ((q : Int) + 1 : Int)) xd_616f024e (show (((cm_u1 (cm_u1 (cm_u1 (cm_u1 w9 184 12 (w9.1 184 4)) 184 13 (Int32.ofInt 0)) 184 11 (Int32.ofInt 4)) 184 14 x81).1 184 4)).toInt = ((q : Int) : Int) from hat) (show ((Int32.ofInt 1)).toInt = 1 from by decide) (by omega) (by omega) (by omega) (fun v14_ p14_ => ?_)
                      refine wk_putI xf_a934f3ff (fun ci => wk_fitI ci) xd_a2ba409a ?_
                      refine wk_return xd_e11b4b5e xr_dab1a612 ⟨_, rfl, (rm_S_u1 (rm_S_u1 (rm_S_u1 (rm_S_u1 (rm_S_u1 hS (by omega)) (by omega)) (by omega)) (by omega)) (by omega)), ?_⟩
                      rw [hq9] at hs96 hd103
                      have hnan : ¬ (tx_Sm (T q) ∨ tx_Dg (T q)) := by
                        intro h
                        omega
                      rw [tx_tk_sign hs (by omega) (by omega) hnan, if_neg (by omega)]
                      exact ⟨((show (((cm_u1 (cm_u1 (cm_u1 (cm_u1 (cm_u1 w9 184 12 (w9.1 184 4)) 184 13 (Int32.ofInt 0)) 184 11 (Int32.ofInt 4)) 184 14 x81) 184 4 v14_).1 184 12)).toInt = ((q : Int) : Int) from (show ((w9.1 184 4)).toInt = ((q : Int) : Int) from hat))).trans (by first | omega | rfl | (dsimp only; omega)), ((show (((cm_u1 (cm_u1 (cm_u1 (cm_u1 (cm_u1 w9 184 12 (w9.1 184 4)) 184 13 (Int32.ofInt 0)) 184 11 (Int32.ofInt 4)) 184 14 x81) 184 4 v14_).1 184 11)).toInt = (4 : Int) from (show ((Int32.ofInt 4)).toInt = 4 from by decide))).trans (by first | omega | rfl | (dsimp only; omega)), .inr (.inr (.inr (.inr rfl)))⟩
                    · have h137_12 := aw_gt_f (a := ((rm_b T n q) : Int)) (b := (62 : Int)) hx81 (show (((Int8.ofInt 62).toInt32)).toInt = 62 from by decide) h137_12
                      refine wk_iconst xd_6e61d90d ?_
                      refine wk_goto xd_92421343 (t := 145) rfl ?_
                      refine wk_putI xf_99f07650 (fun ci => wk_fitI ci) xd_7babcb72 ?_
                      refine wk_aload_n xd_bab885be rfl ?_
                      refine wk_iload_n xd_46a895b7 rfl ?_
                      refine wk_putI xf_955f6076 (fun ci => wk_fitI ci) xd_5e3a92d4 ?_
                      refine wk_aload_n xd_4dc19a82 rfl ?_
                      refine wk_dup_r xd_62d66c3c ?_
                      refine wk_getI xf_e747bbb5 xd_b70adbae ?_
                      refine wk_iconst xd_369146b9 ?_
                      refine aw_iadd (a := ((q : Int) : Int)) (b := (1 : Int)) (e := ((q : Int) + 1 : Int)) xd_616f024e (show (((cm_u1 (cm_u1 (cm_u1 (cm_u1 w9 184 12 (w9.1 184 4)) 184 13 (Int32.ofInt 0)) 184 11 (Int32.ofInt 3)) 184 14 x81).1 184 4)).toInt = ((q : Int) : Int) from hat) (show ((Int32.ofInt 1)).toInt = 1 from by decide) (by omega) (by omega) (by omega) (fun v15_ p15_ => ?_)
                      refine wk_putI xf_a934f3ff (fun ci => wk_fitI ci) xd_a2ba409a ?_
                      refine wk_return xd_e11b4b5e xr_dab1a612 ⟨_, rfl, (rm_S_u1 (rm_S_u1 (rm_S_u1 (rm_S_u1 (rm_S_u1 hS (by omega)) (by omega)) (by omega)) (by omega)) (by omega)), ?_⟩
                      rw [hq9] at hs96 hd103
                      have hnan : ¬ (tx_Sm (T q) ∨ tx_Dg (T q)) := by
                        intro h
                        omega
                      rw [tx_tk_sign hs (by omega) (by omega) hnan, if_pos (by omega)]
                      exact ⟨((show (((cm_u1 (cm_u1 (cm_u1 (cm_u1 (cm_u1 w9 184 12 (w9.1 184 4)) 184 13 (Int32.ofInt 0)) 184 11 (Int32.ofInt 3)) 184 14 x81) 184 4 v15_).1 184 12)).toInt = ((q : Int) : Int) from (show ((w9.1 184 4)).toInt = ((q : Int) : Int) from hat))).trans (by first | omega | rfl | (dsimp only; omega)), ((show (((cm_u1 (cm_u1 (cm_u1 (cm_u1 (cm_u1 w9 184 12 (w9.1 184 4)) 184 13 (Int32.ofInt 0)) 184 11 (Int32.ofInt 3)) 184 14 x81) 184 4 v15_).1 184 11)).toInt = (3 : Int) from (show ((Int32.ofInt 3)).toInt = 3 from by decide))).trans (by first | omega | rfl | (dsimp only; omega)), .inr (.inr (.inr (.inl ⟨rfl, ((show (((cm_u1 (cm_u1 (cm_u1 (cm_u1 (cm_u1 w9 184 12 (w9.1 184 4)) 184 13 (Int32.ofInt 0)) 184 11 (Int32.ofInt 3)) 184 14 x81) 184 4 v15_).1 184 4)).toInt = ((q : Int) + 1 : Int) from p15_)).trans (by first | omega | rfl | (dsimp only; omega)), ((show (((cm_u1 (cm_u1 (cm_u1 (cm_u1 (cm_u1 w9 184 12 (w9.1 184 4)) 184 13 (Int32.ofInt 0)) 184 11 (Int32.ofInt 3)) 184 14 x81) 184 4 v15_).1 184 14)).toInt = ((rm_b T n q) : Int) from hx81)).trans (by first | omega | rfl | (dsimp only; omega))⟩)))⟩
      · have h86_1 := aw_ge_f (a := ((rm_b T n q) : Int)) (b := (0 : Int)) hx81 hb_z h86_1
        refine wk_aload_n xd_e2ba8b00 rfl ?_
        refine wk_iconst xd_cfd882f4 ?_
        refine wk_putI xf_99f07650 (fun ci => wk_fitI ci) xd_67e37f9a ?_
        refine wk_return xd_dcd12cc9 xr_dab1a612 ⟨_, rfl, (rm_S_u1 (rm_S_u1 (rm_S_u1 hS (by omega)) (by omega)) (by omega)), ?_⟩
        have hs : tx_sk T n p = n := tx_sk_eq (by omega) (.inl (Nat.le_refl n)) (fun j a b => hbl j a (by omega)) (.inl (Nat.le_refl n))
        rw [tx_tk_end hs (by omega) (Nat.le_refl n)]
        exact ⟨((show (((cm_u1 (cm_u1 (cm_u1 w9 184 12 (w9.1 184 4)) 184 13 (Int32.ofInt 0)) 184 11 (Int32.ofInt 0)).1 184 12)).toInt = ((q : Int) : Int) from (show ((w9.1 184 4)).toInt = ((q : Int) : Int) from hat))).trans (by first | omega | rfl | (dsimp only; omega)), ((show (((cm_u1 (cm_u1 (cm_u1 w9 184 12 (w9.1 184 4)) 184 13 (Int32.ofInt 0)) 184 11 (Int32.ofInt 0)).1 184 11)).toInt = (0 : Int) from (show ((Int32.ofInt 0)).toInt = 0 from by decide))).trans (by first | omega | rfl | (dsimp only; omega)), .inl rfl⟩
    · have h52_0 := aw_le_f (a := ((n : Int) : Int)) (b := ((m : Int) : Int)) (show (((cm_u1 (cm_u1 w9 184 12 (w9.1 184 4)) 184 13 (Int32.ofInt 0)).1 184 3)).toInt = ((n : Int) : Int) from hsz) (show (((cm_u1 (cm_u1 w9 184 12 (w9.1 184 4)) 184 13 (Int32.ofInt 0)).1 184 5)).toInt = ((m : Int) : Int) from hmo) h52_0
      refine wk_aload_n xd_d871ae73 rfl ?_
      refine wk_getI xf_e747bbb5 xd_c52fb0a2 ?_
      refine wk_aload_n xd_d8944cc6 rfl ?_
      refine wk_getI xf_72dc0d9d xd_9443be8c ?_
      refine wk_icmp xd_fa6b8851 (t := 80) rfl (fun h63_15 => ?_) (fun h63_15 => ?_)
      · have h63_15 := aw_lt_t (a := ((q : Int) : Int)) (b := ((m : Int) : Int)) (show (((cm_u1 (cm_u1 w9 184 12 (w9.1 184 4)) 184 13 (Int32.ofInt 0)).1 184 4)).toInt = ((q : Int) : Int) from hat) (show (((cm_u1 (cm_u1 w9 184 12 (w9.1 184 4)) 184 13 (Int32.ofInt 0)).1 184 5)).toInt = ((m : Int) : Int) from hmo) h63_15
        refine wk_aload_n xd_797022f2 rfl ?_
        obtain ⟨x81, hCx81, hx81⟩ := mp_ok (w := (cm_u1 (cm_u1 w9 184 12 (w9.1 184 4)) 184 13 (Int32.ofInt 0))) (q := q) (rm_T_S hT (rm_S_u1 (rm_S_u1 hS (by omega)) (by omega))) (((show (((cm_u1 (cm_u1 w9 184 12 (w9.1 184 4)) 184 13 (Int32.ofInt 0)).1 184 4)).toInt = ((q : Int) : Int) from hat)).trans (by omega))
        refine wk_call (kd := 0) (i := 140) xd_83f2fc41 rfl (wk_cal (as := [.inr (.inr (some 184))]) (t := []) xl_07ccde5a rfl xn_49a33765 xc_0ce6a16a rfl rfl xv_2f10ad0b rfl) (cm_C_mono (by omega) hCx81) ?_
        refine wk_istore_n xd_a7dd5cab (by rw [xm_0c78751a]; rfl) rfl ?_
        refine wk_iload_n xd_853c9368 rfl ?_
        refine wk_if xd_268491e6 (t := 95) rfl (fun h86_16 => ?_) (fun h86_16 => ?_)
        · have h86_16 := aw_ge_t (a := ((rm_b T n q) : Int)) (b := (0 : Int)) hx81 hb_z h86_16
          have hq9 : rm_b T n q = T q := by omega
          have hqn : q < n := by omega
          have hnb : ¬ tx_Bl (T q) := by
            rcases hE with h | h
            · omega
            · exact h
          have hs : tx_sk T n p = q := tx_sk_eq hpq (.inl (by omega)) hbl (.inr hnb)
          refine wk_iload_n xd_0419f64f rfl ?_
          obtain ⟨s96, hCs96, hs96⟩ := ms_ok (w := (cm_u1 (cm_u1 w9 184 12 (w9.1 184 4)) 184 13 (Int32.ofInt 0))) (c := ((rm_b T n q) : Int)) hx81
          refine wk_call (kd := 1) (i := 153) xd_93ce1ea1 rfl (wk_cal (as := [.inl x81]) (t := []) xl_ea921303 rfl xn_97b6022a xc_e24ee852 rfl rfl rfl rfl) (cm_C_mono (by omega) hCs96) ?_
          refine wk_if xd_1c83701b (t := 164) rfl (fun h99_17 => ?_) (fun h99_17 => ?_)
          · have h99_17 := aw_ne_t (a := ((s96).toInt : Int)) (b := (0 : Int)) rfl hb_z h99_17
            refine wk_iload_n xd_040551d9 rfl ?_
            obtain ⟨s165, hCs165, hs165⟩ := ms_ok (w := (cm_u1 (cm_u1 w9 184 12 (w9.1 184 4)) 184 13 (Int32.ofInt 0))) (c := ((rm_b T n q) : Int)) hx81
            refine wk_call (kd := 1) (i := 153) xd_c61ec062 rfl (wk_cal (as := [.inl x81]) (t := []) xl_ea921303 rfl xn_97b6022a xc_e24ee852 rfl rfl rfl rfl) (cm_C_mono (by omega) hCs165) ?_
            refine wk_istore_n xd_66b45b65 (by rw [xm_0c78751a]; rfl) rfl ?_
            refine wk_iconst xd_575c1b44 ?_
            refine wk_istore_n xd_2c52de65 (by rw [xm_0c78751a]; rfl) rfl ?_
            refine wk_aload_n xd_796c8564 rfl ?_
            refine aw_lconst xd_e9d72470 ?_
            refine aw_putL xf_d434a2b6 (fun _ => rfl) xd_36d5337e ?_
            refine wk_aload_n xd_0fd51dca rfl ?_
            refine wk_iconst xd_3afda4a0 ?_
            refine wk_putI xf_955f6076 (fun ci => wk_fitI ci) xd_d60b89ea ?_
            have han : tx_Sm (T (q + 0)) ∨ tx_Dg (T (q + 0)) := by
              show tx_Sm (T q) ∨ tx_Dg (T q)
              rw [hq9] at hs96
              omega
            rw [hq9] at hs165
            refine mn_loop (w0 := (cm_u1 (cm_u2 (cm_u1 (cm_u1 w9 184 12 (w9.1 184 4)) 184 13 (Int32.ofInt 0)) 184 17 (Int64.ofNat 0)) 184 14 (Int32.ofInt 0))) (zs := s165) (b := q) (rm_T_S hT (rm_S_u1 (rm_S_u2 (rm_S_u1 (rm_S_u1 hS (by omega)) (by omega)) (by omega)) (by omega))) _ (fun w8 k za hI hE8 => ?_) (n + 1) 0 _ _ (by omega) ⟨?_, ?_, rm_S_rf _, rfl, ?_, ?_, ?_, ?_, ?_⟩
            · obtain ⟨hat8, hsp8, hS8, ha8, hza8, hwd8, hnu8, hall8, hle8⟩ := hI
              have hl := tx_ct_le T q k
              have hk0 : 1 ≤ k := by
                rcases Nat.eq_zero_or_pos k with e | e
                · subst e
                  rcases hE8 with h | h
                  · omega
                  · exact absurd han h
                · exact e
              have hre : tx_re T n q = q + k := tx_re_eq (by omega) (.inl hle8) (fun j a c => by have h8 := hall8 (j - q) (by omega); rw [show q + (j - q) = j from by omega] at h8; exact h8) hE8
              have ha7 : (w8.1 184 12).toInt = (q : Int) := by
                rw [ha8]
                exact ((show (((cm_u1 (cm_u2 (cm_u1 (cm_u1 w9 184 12 (w9.1 184 4)) 184 13 (Int32.ofInt 0)) 184 17 (Int64.ofNat 0)) 184 14 (Int32.ofInt 0)).1 184 12)).toInt = ((q : Int) : Int) from (show ((w9.1 184 4)).toInt = ((q : Int) : Int) from hat))).trans (by omega)
              have hcp : ((s165).toInt = 1 ∧ 1 ≤ tx_ct T q k) ∨ ((s165).toInt = 0 ∧ tx_ct T q k < k) := by
                rcases hs165 with ⟨a1, a2⟩ | ⟨a1, a2⟩
                · exact .inl ⟨a1, tx_ct_pos a2 k hk0⟩
                · exact .inr ⟨a1, tx_ct_ltk a2 k hk0⟩
              refine wk_aload_n xd_b57bf42b rfl ?_
              refine wk_iload_n xd_33abb742 rfl ?_
              refine wk_if xd_960cde3d (t := 320) rfl (fun h300_0 => ?_) (fun h300_0 => ?_)
              · have h300_0 := aw_eq_t (a := ((za).toInt : Int)) (b := (0 : Int)) rfl hb_z h300_0
                refine wk_iconst xd_e8b0bb68 ?_
                refine wk_goto xd_8b164cab (t := 333) rfl ?_
                refine wk_putI xf_99f07650 (fun ci => wk_fitI ci) xd_95cbaa7f ?_
                refine wk_return xd_ca27e852 xr_dab1a612 ⟨_, rfl, rm_S_tr (rm_S_u1 (rm_S_u2 (rm_S_u1 (rm_S_u1 hS (by omega)) (by omega)) (by omega)) (by omega)) (rm_S_u1 hS8 (by omega)), ?_⟩
                rw [tx_tk_run hs (by omega) (by omega) han hre]
                rw [show tx_rn T q k = (4, q, q + k, 0, 0) from (if_neg (by omega)).trans (if_neg (by omega))]
                exact ⟨by rw [hs_u1_ne (by omega)]; exact ha7, by rw [hs_u1_self]; exact (by decide : (Int32.ofInt 4).toInt = ((4 : Nat) : Int)), .inr (.inr (.inr (.inr rfl)))⟩
              · have h300_0 := aw_eq_f (a := ((za).toInt : Int)) (b := (0 : Int)) rfl hb_z h300_0
                refine wk_aload_n xd_358447a7 rfl ?_
                refine wk_getI xf_20544c99 xd_d85caa8b ?_
                refine wk_iload_n xd_151b6639 rfl ?_
                refine wk_if xd_9add5ff3 (t := 316) rfl (fun h308_1 => ?_) (fun h308_1 => ?_)
                · have h308_1 := aw_eq_t (a := ((s165).toInt : Int)) (b := (0 : Int)) rfl hb_z h308_1
                  refine wk_iconst xd_5e8404c5 ?_
                  refine wk_icmp xd_51bf33bd (t := 324) rfl (fun h317_2 => ?_) (fun h317_2 => ?_)
                  · have h317_2 := aw_le_t (a := ((k : Int) : Int)) (b := (3 : Int)) (show ((w8.1 184 13)).toInt = ((k : Int) : Int) from hsp8) (show ((Int32.ofInt 3)).toInt = 3 from by decide) h317_2
                    refine wk_iload_n xd_bac5930b rfl ?_
                    refine wk_if xd_5d35e355 (t := 332) rfl (fun h325_3 => ?_) (fun h325_3 => ?_)
                    · have h325_3 := aw_eq_t (a := ((s165).toInt : Int)) (b := (0 : Int)) rfl hb_z h325_3
                      refine wk_iconst xd_d2d36d9c ?_
                      refine wk_putI xf_99f07650 (fun ci => wk_fitI ci) xd_95cbaa7f ?_
                      refine wk_return xd_ca27e852 xr_dab1a612 ⟨_, rfl, rm_S_tr (rm_S_u1 (rm_S_u2 (rm_S_u1 (rm_S_u1 hS (by omega)) (by omega)) (by omega)) (by omega)) (rm_S_u1 hS8 (by omega)), ?_⟩
                      rw [tx_tk_run hs (by omega) (by omega) han hre]
                      have hct : tx_ct T q k = 0 := by omega
                      have hb9 := tx_nu_b (T := T) (s := q) k (fun j hj9 => by have h8 := hall8 j hj9; have h7 := tx_ct_none k hct j hj9; omega)
                      have hb8 : (10 : Int) ^ k ≤ 10 ^ 3 := tx_pow (by omega)
                      rw [show tx_rn T q k = (2, q, q + k, tx_nu T q k, 0) from (if_neg (by omega)).trans (if_pos (by omega))]
                      exact ⟨by rw [hs_u1_ne (by omega)]; exact ha7, by rw [hs_u1_self]; exact (by decide : (Int32.ofInt 2).toInt = ((2 : Nat) : Int)), .inr (.inr (.inl ⟨rfl, by rw [hs_u1_ne (by omega), hat8]; exact (Int.natCast_add q k).symm, by rw [hs_u1_ne (by omega), hnu8 hct (by omega)]; exact Int32.toInt_ofInt_of_le (by have := hb9.1; omega) (by omega), hb9.1, (show tx_nu T q k ≤ 999 from by omega)⟩))⟩
                    · have h325_3 := aw_eq_f (a := ((s165).toInt : Int)) (b := (0 : Int)) rfl hb_z h325_3
                      refine wk_iconst xd_99131218 ?_
                      refine wk_goto xd_d7f409b7 (t := 333) rfl ?_
                      refine wk_putI xf_99f07650 (fun ci => wk_fitI ci) xd_95cbaa7f ?_
                      refine wk_return xd_ca27e852 xr_dab1a612 ⟨_, rfl, rm_S_tr (rm_S_u1 (rm_S_u2 (rm_S_u1 (rm_S_u1 hS (by omega)) (by omega)) (by omega)) (by omega)) (rm_S_u1 hS8 (by omega)), ?_⟩
                      rw [tx_tk_run hs (by omega) (by omega) han hre]
                      have hct : tx_ct T q k = k := by omega
                      have hk7 : k ≤ 7 := by omega
                      rw [show tx_rn T q k = (1, q, q + k, 0, tx_cd T q k) from if_pos ⟨hct, hk7⟩]
                      exact ⟨by rw [hs_u1_ne (by omega)]; exact ha7, by rw [hs_u1_self]; exact (by decide : (Int32.ofInt 1).toInt = ((1 : Nat) : Int)), .inr (.inl ⟨rfl, by rw [hs_u1_ne (by omega), hat8]; exact (Int.natCast_add q k).symm, hwd8 hct hk7, Nat.lt_of_lt_of_le (tx_cd_lt k (tx_ct_all k hct)) (Nat.pow_le_pow_right (by decide) hk7)⟩)⟩
                  · have h317_2 := aw_le_f (a := ((k : Int) : Int)) (b := (3 : Int)) (show ((w8.1 184 13)).toInt = ((k : Int) : Int) from hsp8) (show ((Int32.ofInt 3)).toInt = 3 from by decide) h317_2
                    refine wk_iconst xd_e8b0bb68 ?_
                    refine wk_goto xd_8b164cab (t := 333) rfl ?_
                    refine wk_putI xf_99f07650 (fun ci => wk_fitI ci) xd_95cbaa7f ?_
                    refine wk_return xd_ca27e852 xr_dab1a612 ⟨_, rfl, rm_S_tr (rm_S_u1 (rm_S_u2 (rm_S_u1 (rm_S_u1 hS (by omega)) (by omega)) (by omega)) (by omega)) (rm_S_u1 hS8 (by omega)), ?_⟩
                    rw [tx_tk_run hs (by omega) (by omega) han hre]
                    rw [show tx_rn T q k = (4, q, q + k, 0, 0) from (if_neg (by omega)).trans (if_neg (by omega))]
                    exact ⟨by rw [hs_u1_ne (by omega)]; exact ha7, by rw [hs_u1_self]; exact (by decide : (Int32.ofInt 4).toInt = ((4 : Nat) : Int)), .inr (.inr (.inr (.inr rfl)))⟩
                · have h308_1 := aw_eq_f (a := ((s165).toInt : Int)) (b := (0 : Int)) rfl hb_z h308_1
                  refine wk_bipush xd_2e83c37f ?_
                  refine wk_goto xd_fbff2b6a (t := 317) rfl ?_
                  refine wk_icmp xd_51bf33bd (t := 324) rfl (fun h317_4 => ?_) (fun h317_4 => ?_)
                  · have h317_4 := aw_le_t (a := ((k : Int) : Int)) (b := (7 : Int)) (show ((w8.1 184 13)).toInt = ((k : Int) : Int) from hsp8) (show (((Int8.ofInt 7).toInt32)).toInt = 7 from by decide) h317_4
                    refine wk_iload_n xd_bac5930b rfl ?_
                    refine wk_if xd_5d35e355 (t := 332) rfl (fun h325_5 => ?_) (fun h325_5 => ?_)
                    · have h325_5 := aw_eq_t (a := ((s165).toInt : Int)) (b := (0 : Int)) rfl hb_z h325_5
                      refine wk_iconst xd_d2d36d9c ?_
                      refine wk_putI xf_99f07650 (fun ci => wk_fitI ci) xd_95cbaa7f ?_
                      refine wk_return xd_ca27e852 xr_dab1a612 ⟨_, rfl, rm_S_tr (rm_S_u1 (rm_S_u2 (rm_S_u1 (rm_S_u1 hS (by omega)) (by omega)) (by omega)) (by omega)) (rm_S_u1 hS8 (by omega)), ?_⟩
                      rw [tx_tk_run hs (by omega) (by omega) han hre]
                      have hct : tx_ct T q k = 0 := by omega
                      have hb9 := tx_nu_b (T := T) (s := q) k (fun j hj9 => by have h8 := hall8 j hj9; have h7 := tx_ct_none k hct j hj9; omega)
                      have hb8 : (10 : Int) ^ k ≤ 10 ^ 3 := tx_pow (by omega)
                      rw [show tx_rn T q k = (2, q, q + k, tx_nu T q k, 0) from (if_neg (by omega)).trans (if_pos (by omega))]
                      exact ⟨by rw [hs_u1_ne (by omega)]; exact ha7, by rw [hs_u1_self]; exact (by decide : (Int32.ofInt 2).toInt = ((2 : Nat) : Int)), .inr (.inr (.inl ⟨rfl, by rw [hs_u1_ne (by omega), hat8]; exact (Int.natCast_add q k).symm, by rw [hs_u1_ne (by omega), hnu8 hct (by omega)]; exact Int32.toInt_ofInt_of_le (by have := hb9.1; omega) (by omega), hb9.1, (show tx_nu T q k ≤ 999 from by omega)⟩))⟩
                    · have h325_5 := aw_eq_f (a := ((s165).toInt : Int)) (b := (0 : Int)) rfl hb_z h325_5
                      refine wk_iconst xd_99131218 ?_
                      refine wk_goto xd_d7f409b7 (t := 333) rfl ?_
                      refine wk_putI xf_99f07650 (fun ci => wk_fitI ci) xd_95cbaa7f ?_
                      refine wk_return xd_ca27e852 xr_dab1a612 ⟨_, rfl, rm_S_tr (rm_S_u1 (rm_S_u2 (rm_S_u1 (rm_S_u1 hS (by omega)) (by omega)) (by omega)) (by omega)) (rm_S_u1 hS8 (by omega)), ?_⟩
                      rw [tx_tk_run hs (by omega) (by omega) han hre]
                      have hct : tx_ct T q k = k := by omega
                      have hk7 : k ≤ 7 := by omega
                      rw [show tx_rn T q k = (1, q, q + k, 0, tx_cd T q k) from if_pos ⟨hct, hk7⟩]
                      exact ⟨by rw [hs_u1_ne (by omega)]; exact ha7, by rw [hs_u1_self]; exact (by decide : (Int32.ofInt 1).toInt = ((1 : Nat) : Int)), .inr (.inl ⟨rfl, by rw [hs_u1_ne (by omega), hat8]; exact (Int.natCast_add q k).symm, hwd8 hct hk7, Nat.lt_of_lt_of_le (tx_cd_lt k (tx_ct_all k hct)) (Nat.pow_le_pow_right (by decide) hk7)⟩)⟩
                  · have h317_4 := aw_le_f (a := ((k : Int) : Int)) (b := (7 : Int)) (show ((w8.1 184 13)).toInt = ((k : Int) : Int) from hsp8) (show (((Int8.ofInt 7).toInt32)).toInt = 7 from by decide) h317_4
                    refine wk_iconst xd_e8b0bb68 ?_
                    refine wk_goto xd_8b164cab (t := 333) rfl ?_
                    refine wk_putI xf_99f07650 (fun ci => wk_fitI ci) xd_95cbaa7f ?_
                    refine wk_return xd_ca27e852 xr_dab1a612 ⟨_, rfl, rm_S_tr (rm_S_u1 (rm_S_u2 (rm_S_u1 (rm_S_u1 hS (by omega)) (by omega)) (by omega)) (by omega)) (rm_S_u1 hS8 (by omega)), ?_⟩
                    rw [tx_tk_run hs (by omega) (by omega) han hre]
                    rw [show tx_rn T q k = (4, q, q + k, 0, 0) from (if_neg (by omega)).trans (if_neg (by omega))]
                    exact ⟨by rw [hs_u1_ne (by omega)]; exact ha7, by rw [hs_u1_self]; exact (by decide : (Int32.ofInt 4).toInt = ((4 : Nat) : Int)), .inr (.inr (.inr (.inr rfl)))⟩
            · exact ((show (((cm_u1 (cm_u2 (cm_u1 (cm_u1 w9 184 12 (w9.1 184 4)) 184 13 (Int32.ofInt 0)) 184 17 (Int64.ofNat 0)) 184 14 (Int32.ofInt 0)).1 184 4)).toInt = ((q : Int) : Int) from hat)).trans (by omega)
            · exact ((show (((cm_u1 (cm_u2 (cm_u1 (cm_u1 w9 184 12 (w9.1 184 4)) 184 13 (Int32.ofInt 0)) 184 17 (Int64.ofNat 0)) 184 14 (Int32.ofInt 0)).1 184 13)).toInt = (0 : Int) from (show ((Int32.ofInt 0)).toInt = 0 from by decide))).trans (by omega)
            · have e1 : (Int32.ofInt 1).toInt = 1 := by decide
              have e2 : tx_ct T q 0 = 0 := rfl
              omega
            · exact fun _ _ => tx_u2_through
            · exact fun _ _ => hs_u1_self
            · exact fun j a => absurd a (Nat.not_lt_zero j)
            · omega
          · have h99_17 := aw_ne_f (a := ((s96).toInt : Int)) (b := (0 : Int)) rfl hb_z h99_17
            refine wk_iload_n xd_59f271f3 rfl ?_
            obtain ⟨d103, hCd103, hd103⟩ := md_ok (w := (cm_u1 (cm_u1 w9 184 12 (w9.1 184 4)) 184 13 (Int32.ofInt 0))) (c := ((rm_b T n q) : Int)) hx81
            refine wk_call (kd := 1) (i := 157) xd_9c8c5e74 rfl (wk_cal (as := [.inl x81]) (t := []) xl_87ac4868 rfl xn_11227084 xc_3cc433d4 rfl rfl rfl rfl) (cm_C_mono (by omega) hCd103) ?_
            refine wk_if xd_bb8bebc7 (t := 164) rfl (fun h106_18 => ?_) (fun h106_18 => ?_)
            · have h106_18 := aw_ne_t (a := ((d103).toInt : Int)) (b := (0 : Int)) rfl hb_z h106_18
              refine wk_iload_n xd_040551d9 rfl ?_
              obtain ⟨s165, hCs165, hs165⟩ := ms_ok (w := (cm_u1 (cm_u1 w9 184 12 (w9.1 184 4)) 184 13 (Int32.ofInt 0))) (c := ((rm_b T n q) : Int)) hx81
              refine wk_call (kd := 1) (i := 153) xd_c61ec062 rfl (wk_cal (as := [.inl x81]) (t := []) xl_ea921303 rfl xn_97b6022a xc_e24ee852 rfl rfl rfl rfl) (cm_C_mono (by omega) hCs165) ?_
              refine wk_istore_n xd_66b45b65 (by rw [xm_0c78751a]; rfl) rfl ?_
              refine wk_iconst xd_575c1b44 ?_
              refine wk_istore_n xd_2c52de65 (by rw [xm_0c78751a]; rfl) rfl ?_
              refine wk_aload_n xd_796c8564 rfl ?_
              refine aw_lconst xd_e9d72470 ?_
              refine aw_putL xf_d434a2b6 (fun _ => rfl) xd_36d5337e ?_
              refine wk_aload_n xd_0fd51dca rfl ?_
              refine wk_iconst xd_3afda4a0 ?_
              refine wk_putI xf_955f6076 (fun ci => wk_fitI ci) xd_d60b89ea ?_
              have han : tx_Sm (T (q + 0)) ∨ tx_Dg (T (q + 0)) := by
                show tx_Sm (T q) ∨ tx_Dg (T q)
                rw [hq9] at hs96 hd103
                omega
              rw [hq9] at hs165
              refine mn_loop (w0 := (cm_u1 (cm_u2 (cm_u1 (cm_u1 w9 184 12 (w9.1 184 4)) 184 13 (Int32.ofInt 0)) 184 17 (Int64.ofNat 0)) 184 14 (Int32.ofInt 0))) (zs := s165) (b := q) (rm_T_S hT (rm_S_u1 (rm_S_u2 (rm_S_u1 (rm_S_u1 hS (by omega)) (by omega)) (by omega)) (by omega))) _ (fun w8 k za hI hE8 => ?_) (n + 1) 0 _ _ (by omega) ⟨?_, ?_, rm_S_rf _, rfl, ?_, ?_, ?_, ?_, ?_⟩
              · obtain ⟨hat8, hsp8, hS8, ha8, hza8, hwd8, hnu8, hall8, hle8⟩ := hI
                have hl := tx_ct_le T q k
                have hk0 : 1 ≤ k := by
                  rcases Nat.eq_zero_or_pos k with e | e
                  · subst e
                    rcases hE8 with h | h
                    · omega
                    · exact absurd han h
                  · exact e
                have hre : tx_re T n q = q + k := tx_re_eq (by omega) (.inl hle8) (fun j a c => by have h8 := hall8 (j - q) (by omega); rw [show q + (j - q) = j from by omega] at h8; exact h8) hE8
                have ha7 : (w8.1 184 12).toInt = (q : Int) := by
                  rw [ha8]
                  exact ((show (((cm_u1 (cm_u2 (cm_u1 (cm_u1 w9 184 12 (w9.1 184 4)) 184 13 (Int32.ofInt 0)) 184 17 (Int64.ofNat 0)) 184 14 (Int32.ofInt 0)).1 184 12)).toInt = ((q : Int) : Int) from (show ((w9.1 184 4)).toInt = ((q : Int) : Int) from hat))).trans (by omega)
                have hcp : ((s165).toInt = 1 ∧ 1 ≤ tx_ct T q k) ∨ ((s165).toInt = 0 ∧ tx_ct T q k < k) := by
                  rcases hs165 with ⟨a1, a2⟩ | ⟨a1, a2⟩
                  · exact .inl ⟨a1, tx_ct_pos a2 k hk0⟩
                  · exact .inr ⟨a1, tx_ct_ltk a2 k hk0⟩
                refine wk_aload_n xd_b57bf42b rfl ?_
                refine wk_iload_n xd_33abb742 rfl ?_
                refine wk_if xd_960cde3d (t := 320) rfl (fun h300_0 => ?_) (fun h300_0 => ?_)
                · have h300_0 := aw_eq_t (a := ((za).toInt : Int)) (b := (0 : Int)) rfl hb_z h300_0
                  refine wk_iconst xd_e8b0bb68 ?_
                  refine wk_goto xd_8b164cab (t := 333) rfl ?_
                  refine wk_putI xf_99f07650 (fun ci => wk_fitI ci) xd_95cbaa7f ?_
                  refine wk_return xd_ca27e852 xr_dab1a612 ⟨_, rfl, rm_S_tr (rm_S_u1 (rm_S_u2 (rm_S_u1 (rm_S_u1 hS (by omega)) (by omega)) (by omega)) (by omega)) (rm_S_u1 hS8 (by omega)), ?_⟩
                  rw [tx_tk_run hs (by omega) (by omega) han hre]
                  rw [show tx_rn T q k = (4, q, q + k, 0, 0) from (if_neg (by omega)).trans (if_neg (by omega))]
                  exact ⟨by rw [hs_u1_ne (by omega)]; exact ha7, by rw [hs_u1_self]; exact (by decide : (Int32.ofInt 4).toInt = ((4 : Nat) : Int)), .inr (.inr (.inr (.inr rfl)))⟩
                · have h300_0 := aw_eq_f (a := ((za).toInt : Int)) (b := (0 : Int)) rfl hb_z h300_0
                  refine wk_aload_n xd_358447a7 rfl ?_
                  refine wk_getI xf_20544c99 xd_d85caa8b ?_
                  refine wk_iload_n xd_151b6639 rfl ?_
                  refine wk_if xd_9add5ff3 (t := 316) rfl (fun h308_1 => ?_) (fun h308_1 => ?_)
                  · have h308_1 := aw_eq_t (a := ((s165).toInt : Int)) (b := (0 : Int)) rfl hb_z h308_1
                    refine wk_iconst xd_5e8404c5 ?_
                    refine wk_icmp xd_51bf33bd (t := 324) rfl (fun h317_2 => ?_) (fun h317_2 => ?_)
                    · have h317_2 := aw_le_t (a := ((k : Int) : Int)) (b := (3 : Int)) (show ((w8.1 184 13)).toInt = ((k : Int) : Int) from hsp8) (show ((Int32.ofInt 3)).toInt = 3 from by decide) h317_2
                      refine wk_iload_n xd_bac5930b rfl ?_
                      refine wk_if xd_5d35e355 (t := 332) rfl (fun h325_3 => ?_) (fun h325_3 => ?_)
                      · have h325_3 := aw_eq_t (a := ((s165).toInt : Int)) (b := (0 : Int)) rfl hb_z h325_3
                        refine wk_iconst xd_d2d36d9c ?_
                        refine wk_putI xf_99f07650 (fun ci => wk_fitI ci) xd_95cbaa7f ?_
                        refine wk_return xd_ca27e852 xr_dab1a612 ⟨_, rfl, rm_S_tr (rm_S_u1 (rm_S_u2 (rm_S_u1 (rm_S_u1 hS (by omega)) (by omega)) (by omega)) (by omega)) (rm_S_u1 hS8 (by omega)), ?_⟩
                        rw [tx_tk_run hs (by omega) (by omega) han hre]
                        have hct : tx_ct T q k = 0 := by omega
                        have hb9 := tx_nu_b (T := T) (s := q) k (fun j hj9 => by have h8 := hall8 j hj9; have h7 := tx_ct_none k hct j hj9; omega)
                        have hb8 : (10 : Int) ^ k ≤ 10 ^ 3 := tx_pow (by omega)
                        rw [show tx_rn T q k = (2, q, q + k, tx_nu T q k, 0) from (if_neg (by omega)).trans (if_pos (by omega))]
                        exact ⟨by rw [hs_u1_ne (by omega)]; exact ha7, by rw [hs_u1_self]; exact (by decide : (Int32.ofInt 2).toInt = ((2 : Nat) : Int)), .inr (.inr (.inl ⟨rfl, by rw [hs_u1_ne (by omega), hat8]; exact (Int.natCast_add q k).symm, by rw [hs_u1_ne (by omega), hnu8 hct (by omega)]; exact Int32.toInt_ofInt_of_le (by have := hb9.1; omega) (by omega), hb9.1, (show tx_nu T q k ≤ 999 from by omega)⟩))⟩
                      · have h325_3 := aw_eq_f (a := ((s165).toInt : Int)) (b := (0 : Int)) rfl hb_z h325_3
                        refine wk_iconst xd_99131218 ?_
                        refine wk_goto xd_d7f409b7 (t := 333) rfl ?_
                        refine wk_putI xf_99f07650 (fun ci => wk_fitI ci) xd_95cbaa7f ?_
                        refine wk_return xd_ca27e852 xr_dab1a612 ⟨_, rfl, rm_S_tr (rm_S_u1 (rm_S_u2 (rm_S_u1 (rm_S_u1 hS (by omega)) (by omega)) (by omega)) (by omega)) (rm_S_u1 hS8 (by omega)), ?_⟩
                        rw [tx_tk_run hs (by omega) (by omega) han hre]
                        have hct : tx_ct T q k = k := by omega
                        have hk7 : k ≤ 7 := by omega
                        rw [show tx_rn T q k = (1, q, q + k, 0, tx_cd T q k) from if_pos ⟨hct, hk7⟩]
                        exact ⟨by rw [hs_u1_ne (by omega)]; exact ha7, by rw [hs_u1_self]; exact (by decide : (Int32.ofInt 1).toInt = ((1 : Nat) : Int)), .inr (.inl ⟨rfl, by rw [hs_u1_ne (by omega), hat8]; exact (Int.natCast_add q k).symm, hwd8 hct hk7, Nat.lt_of_lt_of_le (tx_cd_lt k (tx_ct_all k hct)) (Nat.pow_le_pow_right (by decide) hk7)⟩)⟩
                    · have h317_2 := aw_le_f (a := ((k : Int) : Int)) (b := (3 : Int)) (show ((w8.1 184 13)).toInt = ((k : Int) : Int) from hsp8) (show ((Int32.ofInt 3)).toInt = 3 from by decide) h317_2
                      refine wk_iconst xd_e8b0bb68 ?_
                      refine wk_goto xd_8b164cab (t := 333) rfl ?_
                      refine wk_putI xf_99f07650 (fun ci => wk_fitI ci) xd_95cbaa7f ?_
                      refine wk_return xd_ca27e852 xr_dab1a612 ⟨_, rfl, rm_S_tr (rm_S_u1 (rm_S_u2 (rm_S_u1 (rm_S_u1 hS (by omega)) (by omega)) (by omega)) (by omega)) (rm_S_u1 hS8 (by omega)), ?_⟩
                      rw [tx_tk_run hs (by omega) (by omega) han hre]
                      rw [show tx_rn T q k = (4, q, q + k, 0, 0) from (if_neg (by omega)).trans (if_neg (by omega))]
                      exact ⟨by rw [hs_u1_ne (by omega)]; exact ha7, by rw [hs_u1_self]; exact (by decide : (Int32.ofInt 4).toInt = ((4 : Nat) : Int)), .inr (.inr (.inr (.inr rfl)))⟩
                  · have h308_1 := aw_eq_f (a := ((s165).toInt : Int)) (b := (0 : Int)) rfl hb_z h308_1
                    refine wk_bipush xd_2e83c37f ?_
                    refine wk_goto xd_fbff2b6a (t := 317) rfl ?_
                    refine wk_icmp xd_51bf33bd (t := 324) rfl (fun h317_4 => ?_) (fun h317_4 => ?_)
                    · have h317_4 := aw_le_t (a := ((k : Int) : Int)) (b := (7 : Int)) (show ((w8.1 184 13)).toInt = ((k : Int) : Int) from hsp8) (show (((Int8.ofInt 7).toInt32)).toInt = 7 from by decide) h317_4
                      refine wk_iload_n xd_bac5930b rfl ?_
                      refine wk_if xd_5d35e355 (t := 332) rfl (fun h325_5 => ?_) (fun h325_5 => ?_)
                      · have h325_5 := aw_eq_t (a := ((s165).toInt : Int)) (b := (0 : Int)) rfl hb_z h325_5
                        refine wk_iconst xd_d2d36d9c ?_
                        refine wk_putI xf_99f07650 (fun ci => wk_fitI ci) xd_95cbaa7f ?_
                        refine wk_return xd_ca27e852 xr_dab1a612 ⟨_, rfl, rm_S_tr (rm_S_u1 (rm_S_u2 (rm_S_u1 (rm_S_u1 hS (by omega)) (by omega)) (by omega)) (by omega)) (rm_S_u1 hS8 (by omega)), ?_⟩
                        rw [tx_tk_run hs (by omega) (by omega) han hre]
                        have hct : tx_ct T q k = 0 := by omega
                        have hb9 := tx_nu_b (T := T) (s := q) k (fun j hj9 => by have h8 := hall8 j hj9; have h7 := tx_ct_none k hct j hj9; omega)
                        have hb8 : (10 : Int) ^ k ≤ 10 ^ 3 := tx_pow (by omega)
                        rw [show tx_rn T q k = (2, q, q + k, tx_nu T q k, 0) from (if_neg (by omega)).trans (if_pos (by omega))]
                        exact ⟨by rw [hs_u1_ne (by omega)]; exact ha7, by rw [hs_u1_self]; exact (by decide : (Int32.ofInt 2).toInt = ((2 : Nat) : Int)), .inr (.inr (.inl ⟨rfl, by rw [hs_u1_ne (by omega), hat8]; exact (Int.natCast_add q k).symm, by rw [hs_u1_ne (by omega), hnu8 hct (by omega)]; exact Int32.toInt_ofInt_of_le (by have := hb9.1; omega) (by omega), hb9.1, (show tx_nu T q k ≤ 999 from by omega)⟩))⟩
                      · have h325_5 := aw_eq_f (a := ((s165).toInt : Int)) (b := (0 : Int)) rfl hb_z h325_5
                        refine wk_iconst xd_99131218 ?_
                        refine wk_goto xd_d7f409b7 (t := 333) rfl ?_
                        refine wk_putI xf_99f07650 (fun ci => wk_fitI ci) xd_95cbaa7f ?_
                        refine wk_return xd_ca27e852 xr_dab1a612 ⟨_, rfl, rm_S_tr (rm_S_u1 (rm_S_u2 (rm_S_u1 (rm_S_u1 hS (by omega)) (by omega)) (by omega)) (by omega)) (rm_S_u1 hS8 (by omega)), ?_⟩
                        rw [tx_tk_run hs (by omega) (by omega) han hre]
                        have hct : tx_ct T q k = k := by omega
                        have hk7 : k ≤ 7 := by omega
                        rw [show tx_rn T q k = (1, q, q + k, 0, tx_cd T q k) from if_pos ⟨hct, hk7⟩]
                        exact ⟨by rw [hs_u1_ne (by omega)]; exact ha7, by rw [hs_u1_self]; exact (by decide : (Int32.ofInt 1).toInt = ((1 : Nat) : Int)), .inr (.inl ⟨rfl, by rw [hs_u1_ne (by omega), hat8]; exact (Int.natCast_add q k).symm, hwd8 hct hk7, Nat.lt_of_lt_of_le (tx_cd_lt k (tx_ct_all k hct)) (Nat.pow_le_pow_right (by decide) hk7)⟩)⟩
                    · have h317_4 := aw_le_f (a := ((k : Int) : Int)) (b := (7 : Int)) (show ((w8.1 184 13)).toInt = ((k : Int) : Int) from hsp8) (show (((Int8.ofInt 7).toInt32)).toInt = 7 from by decide) h317_4
                      refine wk_iconst xd_e8b0bb68 ?_
                      refine wk_goto xd_8b164cab (t := 333) rfl ?_
                      refine wk_putI xf_99f07650 (fun ci => wk_fitI ci) xd_95cbaa7f ?_
                      refine wk_return xd_ca27e852 xr_dab1a612 ⟨_, rfl, rm_S_tr (rm_S_u1 (rm_S_u2 (rm_S_u1 (rm_S_u1 hS (by omega)) (by omega)) (by omega)) (by omega)) (rm_S_u1 hS8 (by omega)), ?_⟩
                      rw [tx_tk_run hs (by omega) (by omega) han hre]
                      rw [show tx_rn T q k = (4, q, q + k, 0, 0) from (if_neg (by omega)).trans (if_neg (by omega))]
                      exact ⟨by rw [hs_u1_ne (by omega)]; exact ha7, by rw [hs_u1_self]; exact (by decide : (Int32.ofInt 4).toInt = ((4 : Nat) : Int)), .inr (.inr (.inr (.inr rfl)))⟩
              · exact ((show (((cm_u1 (cm_u2 (cm_u1 (cm_u1 w9 184 12 (w9.1 184 4)) 184 13 (Int32.ofInt 0)) 184 17 (Int64.ofNat 0)) 184 14 (Int32.ofInt 0)).1 184 4)).toInt = ((q : Int) : Int) from hat)).trans (by omega)
              · exact ((show (((cm_u1 (cm_u2 (cm_u1 (cm_u1 w9 184 12 (w9.1 184 4)) 184 13 (Int32.ofInt 0)) 184 17 (Int64.ofNat 0)) 184 14 (Int32.ofInt 0)).1 184 13)).toInt = (0 : Int) from (show ((Int32.ofInt 0)).toInt = 0 from by decide))).trans (by omega)
              · have e1 : (Int32.ofInt 1).toInt = 1 := by decide
                have e2 : tx_ct T q 0 = 0 := rfl
                omega
              · exact fun _ _ => tx_u2_through
              · exact fun _ _ => hs_u1_self
              · exact fun j a => absurd a (Nat.not_lt_zero j)
              · omega
            · have h106_18 := aw_ne_f (a := ((d103).toInt : Int)) (b := (0 : Int)) rfl hb_z h106_18
              refine wk_aload_n xd_48cdf135 rfl ?_
              refine wk_iload_n xd_3541c73d rfl ?_
              refine wk_bipush xd_d9c80417 ?_
              refine wk_icmp xd_ac13d367 (t := 140) rfl (fun h113_19 => ?_) (fun h113_19 => ?_)
              · have h113_19 := aw_eq_t (a := ((rm_b T n q) : Int)) (b := (59 : Int)) hx81 (show (((Int8.ofInt 59).toInt32)).toInt = 59 from by decide) h113_19
                refine wk_iconst xd_6e61d90d ?_
                refine wk_goto xd_92421343 (t := 145) rfl ?_
                refine wk_putI xf_99f07650 (fun ci => wk_fitI ci) xd_7babcb72 ?_
                refine wk_aload_n xd_bab885be rfl ?_
                refine wk_iload_n xd_46a895b7 rfl ?_
                refine wk_putI xf_955f6076 (fun ci => wk_fitI ci) xd_5e3a92d4 ?_
                refine wk_aload_n xd_4dc19a82 rfl ?_
                refine wk_dup_r xd_62d66c3c ?_
                refine wk_getI xf_e747bbb5 xd_b70adbae ?_
                refine wk_iconst xd_369146b9 ?_
                refine aw_iadd (a := ((q : Int) : Int)) (b := (1 : Int)) (e := ((q : Int) + 1 : Int)) xd_616f024e (show (((cm_u1 (cm_u1 (cm_u1 (cm_u1 w9 184 12 (w9.1 184 4)) 184 13 (Int32.ofInt 0)) 184 11 (Int32.ofInt 3)) 184 14 x81).1 184 4)).toInt = ((q : Int) : Int) from hat) (show ((Int32.ofInt 1)).toInt = 1 from by decide) (by omega) (by omega) (by omega) (fun v21_ p21_ => ?_)
                refine wk_putI xf_a934f3ff (fun ci => wk_fitI ci) xd_a2ba409a ?_
                refine wk_return xd_e11b4b5e xr_dab1a612 ⟨_, rfl, (rm_S_u1 (rm_S_u1 (rm_S_u1 (rm_S_u1 (rm_S_u1 hS (by omega)) (by omega)) (by omega)) (by omega)) (by omega)), ?_⟩
                rw [hq9] at hs96 hd103
                have hnan : ¬ (tx_Sm (T q) ∨ tx_Dg (T q)) := by
                  intro h
                  omega
                rw [tx_tk_sign hs (by omega) (by omega) hnan, if_pos (by omega)]
                exact ⟨((show (((cm_u1 (cm_u1 (cm_u1 (cm_u1 (cm_u1 w9 184 12 (w9.1 184 4)) 184 13 (Int32.ofInt 0)) 184 11 (Int32.ofInt 3)) 184 14 x81) 184 4 v21_).1 184 12)).toInt = ((q : Int) : Int) from (show ((w9.1 184 4)).toInt = ((q : Int) : Int) from hat))).trans (by first | omega | rfl | (dsimp only; omega)), ((show (((cm_u1 (cm_u1 (cm_u1 (cm_u1 (cm_u1 w9 184 12 (w9.1 184 4)) 184 13 (Int32.ofInt 0)) 184 11 (Int32.ofInt 3)) 184 14 x81) 184 4 v21_).1 184 11)).toInt = (3 : Int) from (show ((Int32.ofInt 3)).toInt = 3 from by decide))).trans (by first | omega | rfl | (dsimp only; omega)), .inr (.inr (.inr (.inl ⟨rfl, ((show (((cm_u1 (cm_u1 (cm_u1 (cm_u1 (cm_u1 w9 184 12 (w9.1 184 4)) 184 13 (Int32.ofInt 0)) 184 11 (Int32.ofInt 3)) 184 14 x81) 184 4 v21_).1 184 4)).toInt = ((q : Int) + 1 : Int) from p21_)).trans (by first | omega | rfl | (dsimp only; omega)), ((show (((cm_u1 (cm_u1 (cm_u1 (cm_u1 (cm_u1 w9 184 12 (w9.1 184 4)) 184 13 (Int32.ofInt 0)) 184 11 (Int32.ofInt 3)) 184 14 x81) 184 4 v21_).1 184 14)).toInt = ((rm_b T n q) : Int) from hx81)).trans (by first | omega | rfl | (dsimp only; omega))⟩)))⟩
              · have h113_19 := aw_eq_f (a := ((rm_b T n q) : Int)) (b := (59 : Int)) hx81 (show (((Int8.ofInt 59).toInt32)).toInt = 59 from by decide) h113_19
                refine wk_iload_n xd_d88bb547 rfl ?_
                refine wk_bipush xd_f24ec7b9 ?_
                refine wk_icmp xd_2d973415 (t := 140) rfl (fun h119_21 => ?_) (fun h119_21 => ?_)
                · have h119_21 := aw_eq_t (a := ((rm_b T n q) : Int)) (b := (40 : Int)) hx81 (show (((Int8.ofInt 40).toInt32)).toInt = 40 from by decide) h119_21
                  refine wk_iconst xd_6e61d90d ?_
                  refine wk_goto xd_92421343 (t := 145) rfl ?_
                  refine wk_putI xf_99f07650 (fun ci => wk_fitI ci) xd_7babcb72 ?_
                  refine wk_aload_n xd_bab885be rfl ?_
                  refine wk_iload_n xd_46a895b7 rfl ?_
                  refine wk_putI xf_955f6076 (fun ci => wk_fitI ci) xd_5e3a92d4 ?_
                  refine wk_aload_n xd_4dc19a82 rfl ?_
                  refine wk_dup_r xd_62d66c3c ?_
                  refine wk_getI xf_e747bbb5 xd_b70adbae ?_
                  refine wk_iconst xd_369146b9 ?_
                  refine aw_iadd (a := ((q : Int) : Int)) (b := (1 : Int)) (e := ((q : Int) + 1 : Int)) xd_616f024e (show (((cm_u1 (cm_u1 (cm_u1 (cm_u1 w9 184 12 (w9.1 184 4)) 184 13 (Int32.ofInt 0)) 184 11 (Int32.ofInt 3)) 184 14 x81).1 184 4)).toInt = ((q : Int) : Int) from hat) (show ((Int32.ofInt 1)).toInt = 1 from by decide) (by omega) (by omega) (by omega) (fun v23_ p23_ => ?_)
                  refine wk_putI xf_a934f3ff (fun ci => wk_fitI ci) xd_a2ba409a ?_
                  refine wk_return xd_e11b4b5e xr_dab1a612 ⟨_, rfl, (rm_S_u1 (rm_S_u1 (rm_S_u1 (rm_S_u1 (rm_S_u1 hS (by omega)) (by omega)) (by omega)) (by omega)) (by omega)), ?_⟩
                  rw [hq9] at hs96 hd103
                  have hnan : ¬ (tx_Sm (T q) ∨ tx_Dg (T q)) := by
                    intro h
                    omega
                  rw [tx_tk_sign hs (by omega) (by omega) hnan, if_pos (by omega)]
                  exact ⟨((show (((cm_u1 (cm_u1 (cm_u1 (cm_u1 (cm_u1 w9 184 12 (w9.1 184 4)) 184 13 (Int32.ofInt 0)) 184 11 (Int32.ofInt 3)) 184 14 x81) 184 4 v23_).1 184 12)).toInt = ((q : Int) : Int) from (show ((w9.1 184 4)).toInt = ((q : Int) : Int) from hat))).trans (by first | omega | rfl | (dsimp only; omega)), ((show (((cm_u1 (cm_u1 (cm_u1 (cm_u1 (cm_u1 w9 184 12 (w9.1 184 4)) 184 13 (Int32.ofInt 0)) 184 11 (Int32.ofInt 3)) 184 14 x81) 184 4 v23_).1 184 11)).toInt = (3 : Int) from (show ((Int32.ofInt 3)).toInt = 3 from by decide))).trans (by first | omega | rfl | (dsimp only; omega)), .inr (.inr (.inr (.inl ⟨rfl, ((show (((cm_u1 (cm_u1 (cm_u1 (cm_u1 (cm_u1 w9 184 12 (w9.1 184 4)) 184 13 (Int32.ofInt 0)) 184 11 (Int32.ofInt 3)) 184 14 x81) 184 4 v23_).1 184 4)).toInt = ((q : Int) + 1 : Int) from p23_)).trans (by first | omega | rfl | (dsimp only; omega)), ((show (((cm_u1 (cm_u1 (cm_u1 (cm_u1 (cm_u1 w9 184 12 (w9.1 184 4)) 184 13 (Int32.ofInt 0)) 184 11 (Int32.ofInt 3)) 184 14 x81) 184 4 v23_).1 184 14)).toInt = ((rm_b T n q) : Int) from hx81)).trans (by first | omega | rfl | (dsimp only; omega))⟩)))⟩
                · have h119_21 := aw_eq_f (a := ((rm_b T n q) : Int)) (b := (40 : Int)) hx81 (show (((Int8.ofInt 40).toInt32)).toInt = 40 from by decide) h119_21
                  refine wk_iload_n xd_80c9bdfc rfl ?_
                  refine wk_bipush xd_976ce6b2 ?_
                  refine wk_icmp xd_f0f3978b (t := 140) rfl (fun h125_23 => ?_) (fun h125_23 => ?_)
                  · have h125_23 := aw_eq_t (a := ((rm_b T n q) : Int)) (b := (41 : Int)) hx81 (show (((Int8.ofInt 41).toInt32)).toInt = 41 from by decide) h125_23
                    refine wk_iconst xd_6e61d90d ?_
                    refine wk_goto xd_92421343 (t := 145) rfl ?_
                    refine wk_putI xf_99f07650 (fun ci => wk_fitI ci) xd_7babcb72 ?_
                    refine wk_aload_n xd_bab885be rfl ?_
                    refine wk_iload_n xd_46a895b7 rfl ?_
                    refine wk_putI xf_955f6076 (fun ci => wk_fitI ci) xd_5e3a92d4 ?_
                    refine wk_aload_n xd_4dc19a82 rfl ?_
                    refine wk_dup_r xd_62d66c3c ?_
                    refine wk_getI xf_e747bbb5 xd_b70adbae ?_
                    refine wk_iconst xd_369146b9 ?_
                    refine aw_iadd (a := ((q : Int) : Int)) (b := (1 : Int)) (e := ((q : Int) + 1 : Int)) xd_616f024e (show (((cm_u1 (cm_u1 (cm_u1 (cm_u1 w9 184 12 (w9.1 184 4)) 184 13 (Int32.ofInt 0)) 184 11 (Int32.ofInt 3)) 184 14 x81).1 184 4)).toInt = ((q : Int) : Int) from hat) (show ((Int32.ofInt 1)).toInt = 1 from by decide) (by omega) (by omega) (by omega) (fun v25_ p25_ => ?_)
                    refine wk_putI xf_a934f3ff (fun ci => wk_fitI ci) xd_a2ba409a ?_
                    refine wk_return xd_e11b4b5e xr_dab1a612 ⟨_, rfl, (rm_S_u1 (rm_S_u1 (rm_S_u1 (rm_S_u1 (rm_S_u1 hS (by omega)) (by omega)) (by omega)) (by omega)) (by omega)), ?_⟩
                    rw [hq9] at hs96 hd103
                    have hnan : ¬ (tx_Sm (T q) ∨ tx_Dg (T q)) := by
                      intro h
                      omega
                    rw [tx_tk_sign hs (by omega) (by omega) hnan, if_pos (by omega)]
                    exact ⟨((show (((cm_u1 (cm_u1 (cm_u1 (cm_u1 (cm_u1 w9 184 12 (w9.1 184 4)) 184 13 (Int32.ofInt 0)) 184 11 (Int32.ofInt 3)) 184 14 x81) 184 4 v25_).1 184 12)).toInt = ((q : Int) : Int) from (show ((w9.1 184 4)).toInt = ((q : Int) : Int) from hat))).trans (by first | omega | rfl | (dsimp only; omega)), ((show (((cm_u1 (cm_u1 (cm_u1 (cm_u1 (cm_u1 w9 184 12 (w9.1 184 4)) 184 13 (Int32.ofInt 0)) 184 11 (Int32.ofInt 3)) 184 14 x81) 184 4 v25_).1 184 11)).toInt = (3 : Int) from (show ((Int32.ofInt 3)).toInt = 3 from by decide))).trans (by first | omega | rfl | (dsimp only; omega)), .inr (.inr (.inr (.inl ⟨rfl, ((show (((cm_u1 (cm_u1 (cm_u1 (cm_u1 (cm_u1 w9 184 12 (w9.1 184 4)) 184 13 (Int32.ofInt 0)) 184 11 (Int32.ofInt 3)) 184 14 x81) 184 4 v25_).1 184 4)).toInt = ((q : Int) + 1 : Int) from p25_)).trans (by first | omega | rfl | (dsimp only; omega)), ((show (((cm_u1 (cm_u1 (cm_u1 (cm_u1 (cm_u1 w9 184 12 (w9.1 184 4)) 184 13 (Int32.ofInt 0)) 184 11 (Int32.ofInt 3)) 184 14 x81) 184 4 v25_).1 184 14)).toInt = ((rm_b T n q) : Int) from hx81)).trans (by first | omega | rfl | (dsimp only; omega))⟩)))⟩
                  · have h125_23 := aw_eq_f (a := ((rm_b T n q) : Int)) (b := (41 : Int)) hx81 (show (((Int8.ofInt 41).toInt32)).toInt = 41 from by decide) h125_23
                    refine wk_iload_n xd_6de62d33 rfl ?_
                    refine wk_bipush xd_0aebfec6 ?_
                    refine wk_icmp xd_fe20f744 (t := 144) rfl (fun h131_25 => ?_) (fun h131_25 => ?_)
                    · have h131_25 := aw_lt_t (a := ((rm_b T n q) : Int)) (b := (60 : Int)) hx81 (show (((Int8.ofInt 60).toInt32)).toInt = 60 from by decide) h131_25
                      refine wk_iconst xd_80e0961d ?_
                      refine wk_putI xf_99f07650 (fun ci => wk_fitI ci) xd_7babcb72 ?_
                      refine wk_aload_n xd_bab885be rfl ?_
                      refine wk_iload_n xd_46a895b7 rfl ?_
                      refine wk_putI xf_955f6076 (fun ci => wk_fitI ci) xd_5e3a92d4 ?_
                      refine wk_aload_n xd_4dc19a82 rfl ?_
                      refine wk_dup_r xd_62d66c3c ?_
                      refine wk_getI xf_e747bbb5 xd_b70adbae ?_
                      refine wk_iconst xd_369146b9 ?_
                      refine aw_iadd (a := ((q : Int) : Int)) (b := (1 : Int)) (e := ((q : Int) + 1 : Int)) xd_616f024e (show (((cm_u1 (cm_u1 (cm_u1 (cm_u1 w9 184 12 (w9.1 184 4)) 184 13 (Int32.ofInt 0)) 184 11 (Int32.ofInt 4)) 184 14 x81).1 184 4)).toInt = ((q : Int) : Int) from hat) (show ((Int32.ofInt 1)).toInt = 1 from by decide) (by omega) (by omega) (by omega) (fun v27_ p27_ => ?_)
                      refine wk_putI xf_a934f3ff (fun ci => wk_fitI ci) xd_a2ba409a ?_
                      refine wk_return xd_e11b4b5e xr_dab1a612 ⟨_, rfl, (rm_S_u1 (rm_S_u1 (rm_S_u1 (rm_S_u1 (rm_S_u1 hS (by omega)) (by omega)) (by omega)) (by omega)) (by omega)), ?_⟩
                      rw [hq9] at hs96 hd103
                      have hnan : ¬ (tx_Sm (T q) ∨ tx_Dg (T q)) := by
                        intro h
                        omega
                      rw [tx_tk_sign hs (by omega) (by omega) hnan, if_neg (by omega)]
                      exact ⟨((show (((cm_u1 (cm_u1 (cm_u1 (cm_u1 (cm_u1 w9 184 12 (w9.1 184 4)) 184 13 (Int32.ofInt 0)) 184 11 (Int32.ofInt 4)) 184 14 x81) 184 4 v27_).1 184 12)).toInt = ((q : Int) : Int) from (show ((w9.1 184 4)).toInt = ((q : Int) : Int) from hat))).trans (by first | omega | rfl | (dsimp only; omega)), ((show (((cm_u1 (cm_u1 (cm_u1 (cm_u1 (cm_u1 w9 184 12 (w9.1 184 4)) 184 13 (Int32.ofInt 0)) 184 11 (Int32.ofInt 4)) 184 14 x81) 184 4 v27_).1 184 11)).toInt = (4 : Int) from (show ((Int32.ofInt 4)).toInt = 4 from by decide))).trans (by first | omega | rfl | (dsimp only; omega)), .inr (.inr (.inr (.inr rfl)))⟩
                    · have h131_25 := aw_lt_f (a := ((rm_b T n q) : Int)) (b := (60 : Int)) hx81 (show (((Int8.ofInt 60).toInt32)).toInt = 60 from by decide) h131_25
                      refine wk_iload_n xd_ec26aaa1 rfl ?_
                      refine wk_bipush xd_f1eb2a34 ?_
                      refine wk_icmp xd_0818f0e3 (t := 144) rfl (fun h137_27 => ?_) (fun h137_27 => ?_)
                      · have h137_27 := aw_gt_t (a := ((rm_b T n q) : Int)) (b := (62 : Int)) hx81 (show (((Int8.ofInt 62).toInt32)).toInt = 62 from by decide) h137_27
                        refine wk_iconst xd_80e0961d ?_
                        refine wk_putI xf_99f07650 (fun ci => wk_fitI ci) xd_7babcb72 ?_
                        refine wk_aload_n xd_bab885be rfl ?_
                        refine wk_iload_n xd_46a895b7 rfl ?_
                        refine wk_putI xf_955f6076 (fun ci => wk_fitI ci) xd_5e3a92d4 ?_
                        refine wk_aload_n xd_4dc19a82 rfl ?_
                        refine wk_dup_r xd_62d66c3c ?_
                        refine wk_getI xf_e747bbb5 xd_b70adbae ?_
                        refine wk_iconst xd_369146b9 ?_
                        refine aw_iadd (a := ((q : Int) : Int)) (b := (1 : Int)) (e := ((q : Int) + 1 : Int)) xd_616f024e (show (((cm_u1 (cm_u1 (cm_u1 (cm_u1 w9 184 12 (w9.1 184 4)) 184 13 (Int32.ofInt 0)) 184 11 (Int32.ofInt 4)) 184 14 x81).1 184 4)).toInt = ((q : Int) : Int) from hat) (show ((Int32.ofInt 1)).toInt = 1 from by decide) (by omega) (by omega) (by omega) (fun v29_ p29_ => ?_)
                        refine wk_putI xf_a934f3ff (fun ci => wk_fitI ci) xd_a2ba409a ?_
                        refine wk_return xd_e11b4b5e xr_dab1a612 ⟨_, rfl, (rm_S_u1 (rm_S_u1 (rm_S_u1 (rm_S_u1 (rm_S_u1 hS (by omega)) (by omega)) (by omega)) (by omega)) (by omega)), ?_⟩
                        rw [hq9] at hs96 hd103
                        have hnan : ¬ (tx_Sm (T q) ∨ tx_Dg (T q)) := by
                          intro h
                          omega
                        rw [tx_tk_sign hs (by omega) (by omega) hnan, if_neg (by omega)]
                        exact ⟨((show (((cm_u1 (cm_u1 (cm_u1 (cm_u1 (cm_u1 w9 184 12 (w9.1 184 4)) 184 13 (Int32.ofInt 0)) 184 11 (Int32.ofInt 4)) 184 14 x81) 184 4 v29_).1 184 12)).toInt = ((q : Int) : Int) from (show ((w9.1 184 4)).toInt = ((q : Int) : Int) from hat))).trans (by first | omega | rfl | (dsimp only; omega)), ((show (((cm_u1 (cm_u1 (cm_u1 (cm_u1 (cm_u1 w9 184 12 (w9.1 184 4)) 184 13 (Int32.ofInt 0)) 184 11 (Int32.ofInt 4)) 184 14 x81) 184 4 v29_).1 184 11)).toInt = (4 : Int) from (show ((Int32.ofInt 4)).toInt = 4 from by decide))).trans (by first | omega | rfl | (dsimp only; omega)), .inr (.inr (.inr (.inr rfl)))⟩
                      · have h137_27 := aw_gt_f (a := ((rm_b T n q) : Int)) (b := (62 : Int)) hx81 (show (((Int8.ofInt 62).toInt32)).toInt = 62 from by decide) h137_27
                        refine wk_iconst xd_6e61d90d ?_
                        refine wk_goto xd_92421343 (t := 145) rfl ?_
                        refine wk_putI xf_99f07650 (fun ci => wk_fitI ci) xd_7babcb72 ?_
                        refine wk_aload_n xd_bab885be rfl ?_
                        refine wk_iload_n xd_46a895b7 rfl ?_
                        refine wk_putI xf_955f6076 (fun ci => wk_fitI ci) xd_5e3a92d4 ?_
                        refine wk_aload_n xd_4dc19a82 rfl ?_
                        refine wk_dup_r xd_62d66c3c ?_
                        refine wk_getI xf_e747bbb5 xd_b70adbae ?_
                        refine wk_iconst xd_369146b9 ?_
                        refine aw_iadd (a := ((q : Int) : Int)) (b := (1 : Int)) (e := ((q : Int) + 1 : Int)) xd_616f024e (show (((cm_u1 (cm_u1 (cm_u1 (cm_u1 w9 184 12 (w9.1 184 4)) 184 13 (Int32.ofInt 0)) 184 11 (Int32.ofInt 3)) 184 14 x81).1 184 4)).toInt = ((q : Int) : Int) from hat) (show ((Int32.ofInt 1)).toInt = 1 from by decide) (by omega) (by omega) (by omega) (fun v30_ p30_ => ?_)
                        refine wk_putI xf_a934f3ff (fun ci => wk_fitI ci) xd_a2ba409a ?_
                        refine wk_return xd_e11b4b5e xr_dab1a612 ⟨_, rfl, (rm_S_u1 (rm_S_u1 (rm_S_u1 (rm_S_u1 (rm_S_u1 hS (by omega)) (by omega)) (by omega)) (by omega)) (by omega)), ?_⟩
                        rw [hq9] at hs96 hd103
                        have hnan : ¬ (tx_Sm (T q) ∨ tx_Dg (T q)) := by
                          intro h
                          omega
                        rw [tx_tk_sign hs (by omega) (by omega) hnan, if_pos (by omega)]
                        exact ⟨((show (((cm_u1 (cm_u1 (cm_u1 (cm_u1 (cm_u1 w9 184 12 (w9.1 184 4)) 184 13 (Int32.ofInt 0)) 184 11 (Int32.ofInt 3)) 184 14 x81) 184 4 v30_).1 184 12)).toInt = ((q : Int) : Int) from (show ((w9.1 184 4)).toInt = ((q : Int) : Int) from hat))).trans (by first | omega | rfl | (dsimp only; omega)), ((show (((cm_u1 (cm_u1 (cm_u1 (cm_u1 (cm_u1 w9 184 12 (w9.1 184 4)) 184 13 (Int32.ofInt 0)) 184 11 (Int32.ofInt 3)) 184 14 x81) 184 4 v30_).1 184 11)).toInt = (3 : Int) from (show ((Int32.ofInt 3)).toInt = 3 from by decide))).trans (by first | omega | rfl | (dsimp only; omega)), .inr (.inr (.inr (.inl ⟨rfl, ((show (((cm_u1 (cm_u1 (cm_u1 (cm_u1 (cm_u1 w9 184 12 (w9.1 184 4)) 184 13 (Int32.ofInt 0)) 184 11 (Int32.ofInt 3)) 184 14 x81) 184 4 v30_).1 184 4)).toInt = ((q : Int) + 1 : Int) from p30_)).trans (by first | omega | rfl | (dsimp only; omega)), ((show (((cm_u1 (cm_u1 (cm_u1 (cm_u1 (cm_u1 w9 184 12 (w9.1 184 4)) 184 13 (Int32.ofInt 0)) 184 11 (Int32.ofInt 3)) 184 14 x81) 184 4 v30_).1 184 14)).toInt = ((rm_b T n q) : Int) from hx81)).trans (by first | omega | rfl | (dsimp only; omega))⟩)))⟩
        · have h86_16 := aw_ge_f (a := ((rm_b T n q) : Int)) (b := (0 : Int)) hx81 hb_z h86_16
          refine wk_aload_n xd_e2ba8b00 rfl ?_
          refine wk_iconst xd_cfd882f4 ?_
          refine wk_putI xf_99f07650 (fun ci => wk_fitI ci) xd_67e37f9a ?_
          refine wk_return xd_dcd12cc9 xr_dab1a612 ⟨_, rfl, (rm_S_u1 (rm_S_u1 (rm_S_u1 hS (by omega)) (by omega)) (by omega)), ?_⟩
          have hs : tx_sk T n p = n := tx_sk_eq (by omega) (.inl (Nat.le_refl n)) (fun j a b => hbl j a (by omega)) (.inl (Nat.le_refl n))
          rw [tx_tk_end hs (by omega) (Nat.le_refl n)]
          exact ⟨((show (((cm_u1 (cm_u1 (cm_u1 w9 184 12 (w9.1 184 4)) 184 13 (Int32.ofInt 0)) 184 11 (Int32.ofInt 0)).1 184 12)).toInt = ((q : Int) : Int) from (show ((w9.1 184 4)).toInt = ((q : Int) : Int) from hat))).trans (by first | omega | rfl | (dsimp only; omega)), ((show (((cm_u1 (cm_u1 (cm_u1 w9 184 12 (w9.1 184 4)) 184 13 (Int32.ofInt 0)) 184 11 (Int32.ofInt 0)).1 184 11)).toInt = (0 : Int) from (show ((Int32.ofInt 0)).toInt = 0 from by decide))).trans (by first | omega | rfl | (dsimp only; omega)), .inl rfl⟩
      · have h63_15 := aw_lt_f (a := ((q : Int) : Int)) (b := ((m : Int) : Int)) (show (((cm_u1 (cm_u1 w9 184 12 (w9.1 184 4)) 184 13 (Int32.ofInt 0)).1 184 4)).toInt = ((q : Int) : Int) from hat) (show (((cm_u1 (cm_u1 w9 184 12 (w9.1 184 4)) 184 13 (Int32.ofInt 0)).1 184 5)).toInt = ((m : Int) : Int) from hmo) h63_15
        refine wk_aload_n xd_f68a3e66 rfl ?_
        refine wk_aload_n xd_6df9d4b2 rfl ?_
        refine wk_getI xf_72dc0d9d xd_b8482d3b ?_
        refine wk_putI xf_ee9d5c7d (fun ci => wk_fitI ci) xd_27e481b2 ?_
        refine wk_aload_n xd_9a3988a8 rfl ?_
        refine wk_iconst xd_9ca2e2a8 ?_
        refine wk_putI xf_99f07650 (fun ci => wk_fitI ci) xd_c1fb8ff1 ?_
        refine wk_return xd_bfb2de1a xr_dab1a612 ⟨_, rfl, (rm_S_u1 (rm_S_u1 (rm_S_u1 (rm_S_u1 hS (by omega)) (by omega)) (by omega)) (by omega)), ?_⟩
        have hs : m ≤ tx_sk T n p := Nat.le_trans (show m ≤ q by omega) (tx_sk_ge hpq (by omega) hbl)
        rw [tx_tk_over (by omega) hs]
        exact ⟨((show (((cm_u1 (cm_u1 (cm_u1 (cm_u1 w9 184 12 (w9.1 184 4)) 184 13 (Int32.ofInt 0)) 184 12 ((cm_u1 (cm_u1 w9 184 12 (w9.1 184 4)) 184 13 (Int32.ofInt 0)).1 184 5)) 184 11 (Int32.ofInt 4)).1 184 12)).toInt = ((m : Int) : Int) from (show (((cm_u1 (cm_u1 w9 184 12 (w9.1 184 4)) 184 13 (Int32.ofInt 0)).1 184 5)).toInt = ((m : Int) : Int) from hmo))).trans (by first | omega | rfl | (dsimp only; omega)), ((show (((cm_u1 (cm_u1 (cm_u1 (cm_u1 w9 184 12 (w9.1 184 4)) 184 13 (Int32.ofInt 0)) 184 12 ((cm_u1 (cm_u1 w9 184 12 (w9.1 184 4)) 184 13 (Int32.ofInt 0)).1 184 5)) 184 11 (Int32.ofInt 4)).1 184 11)).toInt = (4 : Int) from (show ((Int32.ofInt 4)).toInt = 4 from by decide))).trans (by first | omega | rfl | (dsimp only; omega)), .inr (.inr (.inr (.inr rfl)))⟩
  obtain ⟨o, hC, w', rfl, h1, h2⟩ := h
  exact ⟨w', hC, h1, h2⟩

set_option maxRecDepth 100000 in
theorem xd_b302b2f8 : decode (ia_code 94) 0 = .ok (.aload_n 0, 1) := fdd_d (by decide +kernel)
set_option maxRecDepth 100000 in
theorem xd_4f12a2f1 : decode (ia_code 94) 1 = .ok (.iload_n 1, 1) := fdd_d (by decide +kernel)
set_option maxRecDepth 100000 in
theorem xd_0d51388b : decode (ia_code 94) 2 = .ok (.putfield 167, 3) := fdd_d (by decide +kernel)
set_option maxRecDepth 100000 in
theorem xf_83d65493 : wk_pf 94 167 184 15 0 = true := by decide +kernel
set_option maxRecDepth 100000 in
theorem xd_282df9bf : decode (ia_code 94) 5 = .ok (.aload_n 0, 1) := fdd_d (by decide +kernel)
set_option maxRecDepth 100000 in
theorem xd_5ec8c082 : decode (ia_code 94) 6 = .ok (.aload_n 0, 1) := fdd_d (by decide +kernel)
set_option maxRecDepth 100000 in
theorem xd_950c8abd : decode (ia_code 94) 7 = .ok (.getfield 144, 3) := fdd_d (by decide +kernel)
set_option maxRecDepth 100000 in
theorem xf_a103a42b : wk_gf 94 144 184 12 0 = true := by decide +kernel
set_option maxRecDepth 100000 in
theorem xd_0c2b578f : decode (ia_code 94) 10 = .ok (.putfield 170, 3) := fdd_d (by decide +kernel)
set_option maxRecDepth 100000 in
theorem xf_a721253a : wk_pf 94 170 184 16 0 = true := by decide +kernel
set_option maxRecDepth 100000 in
theorem xd_12cc8c49 : decode (ia_code 94) 13 = .ok (.iconst 0, 1) := fdd_d (by decide +kernel)
set_option maxRecDepth 100000 in
theorem xd_acfb38af : decode (ia_code 94) 14 = .ok (.ireturn, 1) := fdd_d (by decide +kernel)
set_option maxRecDepth 100000 in
theorem xr_6f7014af : ia_ret 94 = some .boolean := by decide +kernel
set_option maxRecDepth 100000 in
theorem xm_972d1076 : ia_maxL 94 = 2 := by decide +kernel
set_option maxRecDepth 100000 in
theorem xd_e5e3d908 : decode (ia_code 120) 0 = .ok (.aload_n 0, 1) := fdd_d (by decide +kernel)
set_option maxRecDepth 100000 in
theorem xd_70ce316d : decode (ia_code 120) 1 = .ok (.getfield 150, 3) := fdd_d (by decide +kernel)
set_option maxRecDepth 100000 in
theorem xf_5149dce6 : wk_gf 120 150 184 11 0 = true := by decide +kernel
set_option maxRecDepth 100000 in
theorem xd_af978154 : decode (ia_code 120) 4 = .ok (.iconst 1, 1) := fdd_d (by decide +kernel)
set_option maxRecDepth 100000 in
theorem xd_12afb942 : decode (ia_code 120) 5 = .ok (.if_icmp .ne 16, 3) := fdd_d (by decide +kernel)
set_option maxRecDepth 100000 in
theorem xd_e55a9a2e : decode (ia_code 120) 8 = .ok (.aload_n 0, 1) := fdd_d (by decide +kernel)
set_option maxRecDepth 100000 in
theorem xd_e4d314af : decode (ia_code 120) 9 = .ok (.getfield 163, 3) := fdd_d (by decide +kernel)
set_option maxRecDepth 100000 in
theorem xf_29e12ad9 : wk_gf 120 163 184 17 1 = true := by decide +kernel
set_option maxRecDepth 100000 in
theorem xd_118c2c87 : decode (ia_code 120) 12 = .ok (.lload_n 1, 1) := fdd_d (by decide +kernel)
set_option maxRecDepth 100000 in
theorem xd_8d2147a3 : decode (ia_code 120) 13 = .ok (.lcmp, 1) := fdd_d (by decide +kernel)
set_option maxRecDepth 100000 in
theorem xd_3ba94f01 : decode (ia_code 120) 14 = .ok (.ifCond .ne 7, 3) := fdd_d (by decide +kernel)
set_option maxRecDepth 100000 in
theorem xd_1c981704 : decode (ia_code 120) 21 = .ok (.iconst 0, 1) := fdd_d (by decide +kernel)
set_option maxRecDepth 100000 in
theorem xd_3111431c : decode (ia_code 120) 22 = .ok (.ireturn, 1) := fdd_d (by decide +kernel)
set_option maxRecDepth 100000 in
theorem xr_4f216aa6 : ia_ret 120 = some .boolean := by decide +kernel
set_option maxRecDepth 100000 in
theorem xd_25ec5d09 : decode (ia_code 120) 17 = .ok (.iconst 1, 1) := fdd_d (by decide +kernel)
set_option maxRecDepth 100000 in
theorem xd_0b5649d3 : decode (ia_code 120) 18 = .ok (.goto 4, 3) := fdd_d (by decide +kernel)
set_option maxRecDepth 100000 in
theorem xm_9f0c82c8 : ia_maxL 120 = 3 := by decide +kernel
set_option maxRecDepth 100000 in
theorem xd_035ed977 : decode (ia_code 118) 0 = .ok (.aload_n 0, 1) := fdd_d (by decide +kernel)
set_option maxRecDepth 100000 in
theorem xd_9ab3d1d7 : decode (ia_code 118) 1 = .ok (.getfield 150, 3) := fdd_d (by decide +kernel)
set_option maxRecDepth 100000 in
theorem xf_4dc378d0 : wk_gf 118 150 184 11 0 = true := by decide +kernel
set_option maxRecDepth 100000 in
theorem xd_0b0bac7b : decode (ia_code 118) 4 = .ok (.iconst 3, 1) := fdd_d (by decide +kernel)
set_option maxRecDepth 100000 in
theorem xd_eb2f8da5 : decode (ia_code 118) 5 = .ok (.if_icmp .ne 15, 3) := fdd_d (by decide +kernel)
set_option maxRecDepth 100000 in
theorem xd_ed0d73bb : decode (ia_code 118) 20 = .ok (.iconst 0, 1) := fdd_d (by decide +kernel)
set_option maxRecDepth 100000 in
theorem xd_9453bfb0 : decode (ia_code 118) 21 = .ok (.ireturn, 1) := fdd_d (by decide +kernel)
set_option maxRecDepth 100000 in
theorem xr_43b7f85a : ia_ret 118 = some .boolean := by decide +kernel
set_option maxRecDepth 100000 in
theorem xd_03e79a51 : decode (ia_code 118) 8 = .ok (.aload_n 0, 1) := fdd_d (by decide +kernel)
set_option maxRecDepth 100000 in
theorem xd_490e8ec5 : decode (ia_code 118) 9 = .ok (.getfield 160, 3) := fdd_d (by decide +kernel)
set_option maxRecDepth 100000 in
theorem xf_416c6ef6 : wk_gf 118 160 184 14 0 = true := by decide +kernel
set_option maxRecDepth 100000 in
theorem xd_ccff4e39 : decode (ia_code 118) 12 = .ok (.iload_n 1, 1) := fdd_d (by decide +kernel)
set_option maxRecDepth 100000 in
theorem xd_b66da599 : decode (ia_code 118) 13 = .ok (.if_icmp .ne 7, 3) := fdd_d (by decide +kernel)
set_option maxRecDepth 100000 in
theorem xd_d47939b6 : decode (ia_code 118) 16 = .ok (.iconst 1, 1) := fdd_d (by decide +kernel)
set_option maxRecDepth 100000 in
theorem xd_9029b31f : decode (ia_code 118) 17 = .ok (.goto 4, 3) := fdd_d (by decide +kernel)
set_option maxRecDepth 100000 in
theorem xm_5eef8b31 : ia_maxL 118 = 2 := by decide +kernel
set_option maxRecDepth 100000 in
theorem xd_0af0d3df : decode (ia_code 283) 0 = .ok (.aload_n 0, 1) := fdd_d (by decide +kernel)
set_option maxRecDepth 100000 in
theorem xd_f6e0c3d6 : decode (ia_code 283) 1 = .ok (.iload_n 1, 1) := fdd_d (by decide +kernel)
set_option maxRecDepth 100000 in
theorem xl_31daa880 : ia_pl (ia_cls 283) 173 = some (1, 118, 0, 0, 1706) := by decide +kernel
set_option maxRecDepth 100000 in
theorem xd_51560561 : decode (ia_code 283) 2 = .ok (.invokevirtual 173, 3) := fdd_d (by decide +kernel)
set_option maxRecDepth 100000 in
theorem xd_1b16e129 : decode (ia_code 283) 5 = .ok (.ifCond .ne 9, 3) := fdd_d (by decide +kernel)
set_option maxRecDepth 100000 in
theorem xd_9e52434e : decode (ia_code 283) 14 = .ok (.aload_n 0, 1) := fdd_d (by decide +kernel)
set_option maxRecDepth 100000 in
theorem xl_6ace9bdc : ia_pl (ia_cls 283) 179 = some (1, 129, 0, 0, 1646) := by decide +kernel
set_option maxRecDepth 100000 in
theorem xd_747ed7d5 : decode (ia_code 283) 15 = .ok (.invokevirtual 179, 3) := fdd_d (by decide +kernel)
set_option maxRecDepth 100000 in
theorem xd_16654f9e : decode (ia_code 283) 18 = .ok (.iconst 1, 1) := fdd_d (by decide +kernel)
set_option maxRecDepth 100000 in
theorem xd_909f988a : decode (ia_code 283) 19 = .ok (.ireturn, 1) := fdd_d (by decide +kernel)
set_option maxRecDepth 100000 in
theorem xr_ad687204 : ia_ret 283 = some .boolean := by decide +kernel
set_option maxRecDepth 100000 in
theorem xd_0a4990f9 : decode (ia_code 283) 8 = .ok (.aload_n 0, 1) := fdd_d (by decide +kernel)
set_option maxRecDepth 100000 in
theorem xd_9b47add7 : decode (ia_code 283) 9 = .ok (.iconst 1, 1) := fdd_d (by decide +kernel)
set_option maxRecDepth 100000 in
theorem xl_68cf1b87 : ia_pl (ia_cls 283) 176 = some (1, 94, 0, 0, 1675) := by decide +kernel
set_option maxRecDepth 100000 in
theorem xd_c3560b91 : decode (ia_code 283) 10 = .ok (.invokevirtual 176, 3) := fdd_d (by decide +kernel)
set_option maxRecDepth 100000 in
theorem xd_51a99081 : decode (ia_code 283) 13 = .ok (.ireturn, 1) := fdd_d (by decide +kernel)
set_option maxRecDepth 100000 in
theorem xm_3fd8f175 : ia_maxL 283 = 2 := by decide +kernel
set_option maxRecDepth 100000 in
theorem xd_3598ed4d : decode (ia_code 262) 16 = .ok (.iload_n 2, 1) := fdd_d (by decide +kernel)
set_option maxRecDepth 100000 in
theorem xd_f464551e : decode (ia_code 262) 17 = .ok (.bipush 22, 2) := fdd_d (by decide +kernel)
set_option maxRecDepth 100000 in
theorem xd_1082b7e0 : decode (ia_code 262) 19 = .ok (.if_icmp .ge 33, 3) := fdd_d (by decide +kernel)
set_option maxRecDepth 100000 in
theorem xd_2a7a9f26 : decode (ia_code 262) 22 = .ok (.iload_n 1, 1) := fdd_d (by decide +kernel)
set_option maxRecDepth 100000 in
theorem xd_5657eec2 : decode (ia_code 262) 23 = .ok (.ifCond .eq 21, 3) := fdd_d (by decide +kernel)
set_option maxRecDepth 100000 in
theorem xd_cc0eb5b3 : decode (ia_code 262) 44 = .ok (.iconst 0, 1) := fdd_d (by decide +kernel)
set_option maxRecDepth 100000 in
theorem xd_edf048c6 : decode (ia_code 262) 45 = .ok (.istore_n 1, 1) := fdd_d (by decide +kernel)
set_option maxRecDepth 100000 in
theorem xm_4fb58923 : ia_maxL 262 = 3 := by decide +kernel
set_option maxRecDepth 100000 in
theorem xd_ed58578a : decode (ia_code 262) 46 = .ok (.iinc 2 1, 3) := fdd_d (by decide +kernel)
set_option maxRecDepth 100000 in
theorem xd_6a72c2cd : decode (ia_code 262) 49 = .ok (.goto (-33), 3) := fdd_d (by decide +kernel)
set_option maxRecDepth 100000 in
theorem xd_4d45c468 : decode (ia_code 262) 26 = .ok (.aload_n 0, 1) := fdd_d (by decide +kernel)
set_option maxRecDepth 100000 in
theorem xd_39f4985a : decode (ia_code 262) 27 = .ok (.getfield 163, 3) := fdd_d (by decide +kernel)
set_option maxRecDepth 100000 in
theorem xf_e7618199 : wk_gf 262 163 184 17 1 = true := by decide +kernel
set_option maxRecDepth 100000 in
theorem xd_21aad335 : decode (ia_code 262) 30 = .ok (.aload_n 0, 1) := fdd_d (by decide +kernel)
set_option maxRecDepth 100000 in
theorem xd_84c79c9b : decode (ia_code 262) 31 = .ok (.getfield 47, 3) := fdd_d (by decide +kernel)
set_option maxRecDepth 100000 in
theorem xf_30c08e71 : wk_gf 262 47 184 10 (190 + 3) = true := by decide +kernel
set_option maxRecDepth 100000 in
theorem xd_0135f2ab : decode (ia_code 262) 34 = .ok (.iload_n 2, 1) := fdd_d (by decide +kernel)
set_option maxRecDepth 100000 in
theorem xd_d84f5b74 : decode (ia_code 262) 35 = .ok (.laload, 1) := fdd_d (by decide +kernel)
set_option maxRecDepth 100000 in
theorem xf_9e2a9fca : aw_lar 190 22 = true := by decide +kernel
set_option maxRecDepth 100000 in
theorem xd_6b7de18e : decode (ia_code 262) 36 = .ok (.lcmp, 1) := fdd_d (by decide +kernel)
set_option maxRecDepth 100000 in
theorem xd_505c5d1b : decode (ia_code 262) 37 = .ok (.ifCond .eq 7, 3) := fdd_d (by decide +kernel)
set_option maxRecDepth 100000 in
theorem xd_adcf0f03 : decode (ia_code 262) 40 = .ok (.iconst 1, 1) := fdd_d (by decide +kernel)
set_option maxRecDepth 100000 in
theorem xd_ae18480e : decode (ia_code 262) 41 = .ok (.goto 4, 3) := fdd_d (by decide +kernel)
set_option maxRecDepth 100000 in
theorem xd_9336fe05 : decode (ia_code 262) 0 = .ok (.aload_n 0, 1) := fdd_d (by decide +kernel)
set_option maxRecDepth 100000 in
theorem xd_546a3676 : decode (ia_code 262) 1 = .ok (.getfield 150, 3) := fdd_d (by decide +kernel)
set_option maxRecDepth 100000 in
theorem xf_9fc977a6 : wk_gf 262 150 184 11 0 = true := by decide +kernel
set_option maxRecDepth 100000 in
theorem xd_a6f11c14 : decode (ia_code 262) 4 = .ok (.iconst 1, 1) := fdd_d (by decide +kernel)
set_option maxRecDepth 100000 in
theorem xd_b8080c6a : decode (ia_code 262) 5 = .ok (.if_icmp .ne 7, 3) := fdd_d (by decide +kernel)
set_option maxRecDepth 100000 in
theorem xd_25d0a474 : decode (ia_code 262) 12 = .ok (.iconst 0, 1) := fdd_d (by decide +kernel)
set_option maxRecDepth 100000 in
theorem xd_03fbc063 : decode (ia_code 262) 13 = .ok (.istore_n 1, 1) := fdd_d (by decide +kernel)
set_option maxRecDepth 100000 in
theorem xd_5721fef4 : decode (ia_code 262) 14 = .ok (.iconst 0, 1) := fdd_d (by decide +kernel)
set_option maxRecDepth 100000 in
theorem xd_f466e8e3 : decode (ia_code 262) 15 = .ok (.istore_n 2, 1) := fdd_d (by decide +kernel)
set_option maxRecDepth 100000 in
theorem xd_1b62a851 : decode (ia_code 262) 52 = .ok (.iload_n 1, 1) := fdd_d (by decide +kernel)
set_option maxRecDepth 100000 in
theorem xd_c2746382 : decode (ia_code 262) 53 = .ok (.ireturn, 1) := fdd_d (by decide +kernel)
set_option maxRecDepth 100000 in
theorem xr_33e3abce : ia_ret 262 = some .boolean := by decide +kernel
set_option maxRecDepth 100000 in
theorem xd_4313a914 : decode (ia_code 262) 8 = .ok (.iconst 1, 1) := fdd_d (by decide +kernel)
set_option maxRecDepth 100000 in
theorem xd_64a6b728 : decode (ia_code 262) 9 = .ok (.goto 4, 3) := fdd_d (by decide +kernel)
set_option maxRecDepth 100000 in
theorem xd_0854d2b4 : decode (ia_code 255) 2 = .ok (.iload_n 3, 1) := fdd_d (by decide +kernel)
set_option maxRecDepth 100000 in
theorem xd_ae4711d0 : decode (ia_code 255) 3 = .ok (.iload_n 2, 1) := fdd_d (by decide +kernel)
set_option maxRecDepth 100000 in
theorem xd_d2b7410f : decode (ia_code 255) 4 = .ok (.if_icmp .ge 27, 3) := fdd_d (by decide +kernel)
set_option maxRecDepth 100000 in
theorem xd_6c2e6640 : decode (ia_code 255) 31 = .ok (.iconst (-1), 1) := fdd_d (by decide +kernel)
set_option maxRecDepth 100000 in
theorem xd_1358abcc : decode (ia_code 255) 32 = .ok (.ireturn, 1) := fdd_d (by decide +kernel)
set_option maxRecDepth 100000 in
theorem xr_e318fec7 : ia_ret 255 = some .int := by decide +kernel
set_option maxRecDepth 100000 in
theorem xd_8ed8304e : decode (ia_code 255) 7 = .ok (.aload_n 0, 1) := fdd_d (by decide +kernel)
set_option maxRecDepth 100000 in
theorem xd_c35f79c7 : decode (ia_code 255) 8 = .ok (.getfield 43, 3) := fdd_d (by decide +kernel)
set_option maxRecDepth 100000 in
theorem xf_23184f55 : wk_gf 255 43 184 9 (189 + 3) = true := by decide +kernel
set_option maxRecDepth 100000 in
theorem xd_d48a4e92 : decode (ia_code 255) 11 = .ok (.iload_n 1, 1) := fdd_d (by decide +kernel)
set_option maxRecDepth 100000 in
theorem xd_d8af24cf : decode (ia_code 255) 12 = .ok (.iload_n 3, 1) := fdd_d (by decide +kernel)
set_option maxRecDepth 100000 in
theorem xd_851ffe22 : decode (ia_code 255) 13 = .ok (.iadd, 1) := fdd_d (by decide +kernel)
set_option maxRecDepth 100000 in
theorem xd_5d19e06b : decode (ia_code 255) 14 = .ok (.laload, 1) := fdd_d (by decide +kernel)
set_option maxRecDepth 100000 in
theorem xd_b3b515dc : decode (ia_code 255) 15 = .ok (.aload_n 0, 1) := fdd_d (by decide +kernel)
set_option maxRecDepth 100000 in
theorem xd_cb778345 : decode (ia_code 255) 16 = .ok (.getfield 163, 3) := fdd_d (by decide +kernel)
set_option maxRecDepth 100000 in
theorem xf_b7feaa81 : wk_gf 255 163 184 17 1 = true := by decide +kernel
set_option maxRecDepth 100000 in
theorem xd_fa8a446a : decode (ia_code 255) 19 = .ok (.lcmp, 1) := fdd_d (by decide +kernel)
set_option maxRecDepth 100000 in
theorem xd_f4225adc : decode (ia_code 255) 20 = .ok (.ifCond .ne 5, 3) := fdd_d (by decide +kernel)
set_option maxRecDepth 100000 in
theorem xd_f4cad5e1 : decode (ia_code 255) 25 = .ok (.iinc 3 1, 3) := fdd_d (by decide +kernel)
set_option maxRecDepth 100000 in
theorem xm_e565b23e : ia_maxL 255 = 4 := by decide +kernel
set_option maxRecDepth 100000 in
theorem xd_d737c974 : decode (ia_code 255) 28 = .ok (.goto (-26), 3) := fdd_d (by decide +kernel)
set_option maxRecDepth 100000 in
theorem xd_1bc26733 : decode (ia_code 255) 23 = .ok (.iload_n 3, 1) := fdd_d (by decide +kernel)
set_option maxRecDepth 100000 in
theorem xd_f24dcaca : decode (ia_code 255) 24 = .ok (.ireturn, 1) := fdd_d (by decide +kernel)
set_option maxRecDepth 100000 in
theorem xd_fb37b7f4 : decode (ia_code 255) 0 = .ok (.iconst 0, 1) := fdd_d (by decide +kernel)
set_option maxRecDepth 100000 in
theorem xd_c6069471 : decode (ia_code 255) 1 = .ok (.istore_n 3, 1) := fdd_d (by decide +kernel)
set_option maxRecDepth 100000 in
theorem xd_352e0e6e : decode (ia_code 285) 0 = .ok (.aload_n 0, 1) := fdd_d (by decide +kernel)
set_option maxRecDepth 100000 in
theorem xd_17386bfa : decode (ia_code 285) 1 = .ok (.getfield 150, 3) := fdd_d (by decide +kernel)
set_option maxRecDepth 100000 in
theorem xf_3d9c8d7e : wk_gf 285 150 184 11 0 = true := by decide +kernel
set_option maxRecDepth 100000 in
theorem xd_45f66a61 : decode (ia_code 285) 4 = .ok (.iconst 2, 1) := fdd_d (by decide +kernel)
set_option maxRecDepth 100000 in
theorem xd_2d8e8bd6 : decode (ia_code 285) 5 = .ok (.if_icmp .eq 9, 3) := fdd_d (by decide +kernel)
set_option maxRecDepth 100000 in
theorem xd_220b1e89 : decode (ia_code 285) 14 = .ok (.aload_n 0, 1) := fdd_d (by decide +kernel)
set_option maxRecDepth 100000 in
theorem xd_3cc71970 : decode (ia_code 285) 15 = .ok (.getfield 160, 3) := fdd_d (by decide +kernel)
set_option maxRecDepth 100000 in
theorem xf_31339b58 : wk_gf 285 160 184 14 0 = true := by decide +kernel
set_option maxRecDepth 100000 in
theorem xd_458d06e1 : decode (ia_code 285) 18 = .ok (.iload_n 1, 1) := fdd_d (by decide +kernel)
set_option maxRecDepth 100000 in
theorem xd_995e96e5 : decode (ia_code 285) 19 = .ok (.iload_n 2, 1) := fdd_d (by decide +kernel)
set_option maxRecDepth 100000 in
theorem xl_dd44882e : ia_pl (ia_cls 285) 182 = some (1, 115, 1, 0, 1687) := by decide +kernel
set_option maxRecDepth 100000 in
theorem xd_78e72907 : decode (ia_code 285) 20 = .ok (.invokestatic 182, 3) := fdd_d (by decide +kernel)
set_option maxRecDepth 100000 in
theorem xd_81c25738 : decode (ia_code 285) 23 = .ok (.ifCond .ne 9, 3) := fdd_d (by decide +kernel)
set_option maxRecDepth 100000 in
theorem xd_16faa0fc : decode (ia_code 285) 32 = .ok (.aload_n 0, 1) := fdd_d (by decide +kernel)
set_option maxRecDepth 100000 in
theorem xd_8d894a28 : decode (ia_code 285) 33 = .ok (.aload_n 0, 1) := fdd_d (by decide +kernel)
set_option maxRecDepth 100000 in
theorem xd_06c28965 : decode (ia_code 285) 34 = .ok (.getfield 160, 3) := fdd_d (by decide +kernel)
set_option maxRecDepth 100000 in
theorem xd_1e63a9e9 : decode (ia_code 285) 37 = .ok (.putfield 186, 3) := fdd_d (by decide +kernel)
set_option maxRecDepth 100000 in
theorem xf_e787fe09 : wk_pf 285 186 184 18 0 = true := by decide +kernel
set_option maxRecDepth 100000 in
theorem xd_ca744462 : decode (ia_code 285) 40 = .ok (.aload_n 0, 1) := fdd_d (by decide +kernel)
set_option maxRecDepth 100000 in
theorem xl_b1c37d68 : ia_pl (ia_cls 285) 179 = some (1, 129, 0, 0, 1646) := by decide +kernel
set_option maxRecDepth 100000 in
theorem xd_03661162 : decode (ia_code 285) 41 = .ok (.invokevirtual 179, 3) := fdd_d (by decide +kernel)
set_option maxRecDepth 100000 in
theorem xd_57766c68 : decode (ia_code 285) 44 = .ok (.iconst 1, 1) := fdd_d (by decide +kernel)
set_option maxRecDepth 100000 in
theorem xd_87c60e21 : decode (ia_code 285) 45 = .ok (.ireturn, 1) := fdd_d (by decide +kernel)
set_option maxRecDepth 100000 in
theorem xr_0a5cc50c : ia_ret 285 = some .boolean := by decide +kernel
set_option maxRecDepth 100000 in
theorem xd_97836448 : decode (ia_code 285) 26 = .ok (.aload_n 0, 1) := fdd_d (by decide +kernel)
set_option maxRecDepth 100000 in
theorem xd_c464c982 : decode (ia_code 285) 27 = .ok (.iconst 2, 1) := fdd_d (by decide +kernel)
set_option maxRecDepth 100000 in
theorem xl_dee079ad : ia_pl (ia_cls 285) 176 = some (1, 94, 0, 0, 1675) := by decide +kernel
set_option maxRecDepth 100000 in
theorem xd_b1a13fd5 : decode (ia_code 285) 28 = .ok (.invokevirtual 176, 3) := fdd_d (by decide +kernel)
set_option maxRecDepth 100000 in
theorem xd_f0e634da : decode (ia_code 285) 31 = .ok (.ireturn, 1) := fdd_d (by decide +kernel)
set_option maxRecDepth 100000 in
theorem xd_35974d48 : decode (ia_code 285) 8 = .ok (.aload_n 0, 1) := fdd_d (by decide +kernel)
set_option maxRecDepth 100000 in
theorem xd_f09cc171 : decode (ia_code 285) 9 = .ok (.iconst 1, 1) := fdd_d (by decide +kernel)
set_option maxRecDepth 100000 in
theorem xd_0f8171e2 : decode (ia_code 285) 10 = .ok (.invokevirtual 176, 3) := fdd_d (by decide +kernel)
set_option maxRecDepth 100000 in
theorem xd_3a72fc27 : decode (ia_code 285) 13 = .ok (.ireturn, 1) := fdd_d (by decide +kernel)
set_option maxRecDepth 100000 in
theorem xm_c79f3443 : ia_maxL 285 = 3 := by decide +kernel
/-! ## the reference's reader: what it takes (wip/p4/gen9vi.py) -/
def rm_L (w : cm_W) (T : Nat → Int) (n m p : Nat) : Prop := rm_T w T n m ∧ rm_C w (tx_tk T n m p) ∧ p ≤ n
/-- only the reader's places, its fault and what it got have changed -/
def rm_E (w w' : cm_W) : Prop := ∀ k i, ¬ (k = 184 ∧ (i = 4 ∨ (11 ≤ i ∧ i ≤ 18))) → w'.1 k i = w.1 k i ∧ w'.2 k i = w.2 k i
theorem rm_E_rf (w : cm_W) : rm_E w w := fun _ _ _ => ⟨rfl, rfl⟩
theorem rm_E_tr {w w1 w2 : cm_W} (h1 : rm_E w w1) (h2 : rm_E w1 w2) : rm_E w w2 := fun k i h => ⟨(h2 k i h).1.trans (h1 k i h).1, (h2 k i h).2.trans (h1 k i h).2⟩
theorem rm_E_S {w w' : cm_W} (h : rm_S w w') : rm_E w w' := fun k i hk => h k i (by omega)
theorem rm_E_u1 {w w1 : cm_W} {i : Nat} {x : Int32} (h : rm_E w w1) (h1 : 11 ≤ i) (h2 : i ≤ 18) : rm_E w (cm_u1 w1 184 i x) := fun k j hk => ⟨(hs_u1_ne (by omega)).trans (h k j hk).1, (h k j hk).2⟩
theorem rm_T_E {w w' : cm_W} {T : Nat → Int} {n m : Nat} (h : rm_T w T n m) (hS : rm_E w w') : rm_T w' T n m := ⟨fun j hj => by rw [(hS 185 j (by omega)).1]; exact h.1 j hj, h.2.1, by rw [(hS 184 3 (by omega)).1]; exact h.2.2.1, by rw [(hS 184 5 (by omega)).1]; exact h.2.2.2.1, h.2.2.2.2.1, h.2.2.2.2.2.1, fun k hk => by rw [(hS 190 k (by omega)).2]; exact h.2.2.2.2.2.2 k hk⟩
/-- a fault is told -/
def rm_B (w w' : cm_W) (k : Nat) (q : Int) : Prop := (w'.1 184 15).toInt = k ∧ (w'.1 184 16).toInt = q ∧ ∀ c i, ¬ (c = 184 ∧ (i = 15 ∨ i = 16 ∨ i = 18)) → w'.1 c i = w.1 c i ∧ w'.2 c i = w.2 c i
theorem rm_E_B {w w' : cm_W} {k : Nat} {q : Int} (h : rm_B w w' k q) : rm_E w w' := fun k i hk => h.2.2 k i (by omega)
theorem rm_bB {w : cm_W} {k : Int32} {c : Nat} {q : Int} (hk : k.toInt = c) (hq : (w.1 184 12).toInt = q) : rm_B w (cm_u1 (cm_u1 w 184 15 k) 184 16 ((cm_u1 w 184 15 k).1 184 12)) c q := ⟨hk, hq, fun c i h => ⟨(hs_u1_ne (by omega)).trans (hs_u1_ne (by omega)), rfl⟩⟩
theorem rm_C_num {w : cm_W} {t : Nat × Nat × Nat × Int × Nat} (h : rm_C w t) : (t.1 = 2 ∧ (w.1 184 11).toInt = 2 ∧ (w.1 184 4).toInt = t.2.2.1 ∧ (w.1 184 14).toInt = t.2.2.2.1) ∨ (t.1 ≠ 2 ∧ (w.1 184 11).toInt ≠ 2) := by
  obtain ⟨_, h0, h⟩ := h
  rcases h with a | ⟨a, b, _⟩ | ⟨a, b, c, _⟩ | ⟨a, b, _⟩ | a
  · exact .inr ⟨by omega, by omega⟩
  · exact .inr ⟨by omega, by omega⟩
  · exact .inl ⟨a, by omega, b, c⟩
  · exact .inr ⟨by omega, by omega⟩
  · exact .inr ⟨by omega, by omega⟩
theorem rm_C_sign {w : cm_W} {t : Nat × Nat × Nat × Int × Nat} (h : rm_C w t) : (t.1 = 3 ∧ (w.1 184 11).toInt = 3 ∧ (w.1 184 4).toInt = t.2.2.1 ∧ (w.1 184 14).toInt = t.2.2.2.1) ∨ (t.1 ≠ 3 ∧ (w.1 184 11).toInt ≠ 3) := by
  obtain ⟨_, h0, h⟩ := h
  rcases h with a | ⟨a, b, _⟩ | ⟨a, b, _⟩ | ⟨a, b, c⟩ | a
  · exact .inr ⟨by omega, by omega⟩
  · exact .inr ⟨by omega, by omega⟩
  · exact .inr ⟨by omega, by omega⟩
  · exact .inl ⟨a, by omega, b, c⟩
  · exact .inr ⟨by omega, by omega⟩
theorem rm_C_word {w : cm_W} {t : Nat × Nat × Nat × Int × Nat} (h : rm_C w t) : (t.1 = 1 ∧ (w.1 184 11).toInt = 1 ∧ (w.1 184 4).toInt = t.2.2.1 ∧ w.2 184 17 = Int64.ofNat (tx_F t.2.2.2.2) ∧ t.2.2.2.2 < 32 ^ 7) ∨ (t.1 ≠ 1 ∧ (w.1 184 11).toInt ≠ 1) := by
  obtain ⟨_, h0, h⟩ := h
  rcases h with a | ⟨a, b, c, d⟩ | ⟨a, b, _⟩ | ⟨a, b, _⟩ | a
  · exact .inr ⟨by omega, by omega⟩
  · exact .inl ⟨a, by omega, b, c, d⟩
  · exact .inr ⟨by omega, by omega⟩
  · exact .inr ⟨by omega, by omega⟩
  · exact .inr ⟨by omega, by omega⟩
theorem tx_F63 (c : Nat) : tx_F c < 2 ^ 63 := Nat.lt_of_lt_of_le (tx_f_lt 7 c) (by decide)
theorem tx_F64 {a b : Nat} (ha : a < 32 ^ 7) (hb : b < 32 ^ 7) (h : Int64.ofNat (tx_F a) = Int64.ofNat (tx_F b)) : a = b := tx_F_inj ha hb (tx_i64 (tx_F63 a) (tx_F63 b) h)
theorem tx_rw32 {k : Nat} (h : k < 22) : tx_rw.getD k 0 < 32 ^ 7 := by
  have go : ∀ i, i < 22 → tx_rw.getD i 0 < 32 ^ 7 := by decide
  exact go k h
theorem mb_ok {w : cm_W} {k : Int32} : cm_C 1 94 [.inr (.inr (some 184)), .inl k] w (some (.inl (Int32.ofInt 0)), cm_u1 (cm_u1 w 184 15 k) 184 16 ((cm_u1 w 184 15 k).1 184 12)) := by
  have h : ∃ o, cm_C (0 + 1) 94 [.inr (.inr (some 184)), .inl k] w o ∧ (fun o : cm_O => o = (some (.inl (Int32.ofInt 0)), cm_u1 (cm_u1 w 184 15 k) 184 16 ((cm_u1 w 184 15 k).1 184 12))) o := by
    refine wk_entry (by rw [xm_972d1076]; exact Nat.le_of_ble_eq_true rfl) ?_
    rw [show cm_ent 94 [.inr (.inr (some 184)), .inl k] = [some (.inr (.inr (some 184))), some (.inl k)] from by unfold cm_ent; rw [xm_972d1076]; rfl]
    refine wk_aload_n xd_b302b2f8 rfl ?_
    refine wk_iload_n xd_4f12a2f1 rfl ?_
    refine wk_putI xf_83d65493 (fun ci => wk_fitI ci) xd_0d51388b ?_
    refine wk_aload_n xd_282df9bf rfl ?_
    refine wk_aload_n xd_5ec8c082 rfl ?_
    refine wk_getI xf_a103a42b xd_950c8abd ?_
    refine wk_putI xf_a721253a (fun ci => wk_fitI ci) xd_0c2b578f ?_
    refine wk_iconst xd_12cc8c49 ?_
    exact wk_ireturn xd_acfb38af xr_6f7014af wk_z0 rfl
  obtain ⟨o, hC, rfl⟩ := h
  exact hC
theorem mw_ok {w : cm_W} {t : Nat × Nat × Nat × Int × Nat} {l : Int64} {c : Nat} (hl : l = Int64.ofNat (tx_F c)) (hc : c < 32 ^ 7) (hC0 : rm_C w t) : ∃ x, cm_C 1 120 [.inr (.inr (some 184)), .inr (.inl l)] w (some (.inl x), w) ∧ ((x.toInt = 1 ∧ t.1 = 1 ∧ t.2.2.2.2 = c) ∨ (x.toInt = 0 ∧ ¬ (t.1 = 1 ∧ t.2.2.2.2 = c))) := by
  have h : ∃ o, cm_C (0 + 1) 120 [.inr (.inr (some 184)), .inr (.inl l)] w o ∧ (fun o : cm_O => ∃ x, o = (some (.inl x), w) ∧ ((x.toInt = 1 ∧ t.1 = 1 ∧ t.2.2.2.2 = c) ∨ (x.toInt = 0 ∧ ¬ (t.1 = 1 ∧ t.2.2.2.2 = c)))) o := by
    refine wk_entry (by rw [xm_9f0c82c8]; exact Nat.le_of_ble_eq_true rfl) ?_
    rw [show cm_ent 120 [.inr (.inr (some 184)), .inr (.inl l)] = [some (.inr (.inr (some 184))), some (.inr (.inl l)), none] from by unfold cm_ent; rw [xm_9f0c82c8]; rfl]
    rcases rm_C_word hC0 with ⟨h1, hk, hat, hw, ht⟩ | ⟨h1, hk⟩
    · skip
      refine wk_aload_n xd_e5e3d908 rfl ?_
      refine wk_getI xf_5149dce6 xd_70ce316d ?_
      refine wk_iconst xd_af978154 ?_
      refine wk_icmp xd_12afb942 (t := 21) rfl (fun h5_0 => ?_) (fun h5_0 => ?_)
      · have h5_0 := aw_ne_t (a := ((w.1 184 11).toInt : Int)) (b := (1 : Int)) rfl (show ((Int32.ofInt 1)).toInt = 1 from by decide) h5_0
        exfalso
        omega
      · have h5_0 := aw_ne_f (a := ((w.1 184 11).toInt : Int)) (b := (1 : Int)) rfl (show ((Int32.ofInt 1)).toInt = 1 from by decide) h5_0
        refine wk_aload_n xd_e55a9a2e rfl ?_
        refine aw_getL xf_29e12ad9 xd_e4d314af ?_
        refine aw_lload_n xd_118c2c87 rfl ?_
        refine aw_lcmp xd_8d2147a3 ?_
        refine wk_if xd_3ba94f01 (t := 21) rfl (fun h14_1 => ?_) (fun h14_1 => ?_)
        · have h14_1 := aw_ne_t (a := ((lg_cmp (w.2 184 17) l).toInt : Int)) (b := (0 : Int)) rfl hb_z h14_1
          have hn : ¬ (t.1 = 1 ∧ t.2.2.2.2 = c) := fun e => h14_1 (by rw [hw, hl, e.2]; exact tx_lg0 _)
          refine wk_iconst xd_1c981704 ?_
          exact wk_ireturn xd_3111431c xr_4f216aa6 wk_z0 ⟨_, rfl, .inr ⟨by decide, hn⟩⟩
        · have h14_1 := aw_ne_f (a := ((lg_cmp (w.2 184 17) l).toInt : Int)) (b := (0 : Int)) rfl hb_z h14_1
          have hq : t.2.2.2.2 = c := tx_F64 ht hc (by have e9 := tx_lg1 h14_1; rw [hw, hl] at e9; exact e9)
          refine wk_iconst xd_25ec5d09 ?_
          refine wk_goto xd_0b5649d3 (t := 22) rfl ?_
          exact wk_ireturn xd_3111431c xr_4f216aa6 wk_z1 ⟨_, rfl, .inl ⟨by decide, h1, hq⟩⟩
    · skip
      refine wk_aload_n xd_e5e3d908 rfl ?_
      refine wk_getI xf_5149dce6 xd_70ce316d ?_
      refine wk_iconst xd_af978154 ?_
      refine wk_icmp xd_12afb942 (t := 21) rfl (fun h5_2 => ?_) (fun h5_2 => ?_)
      · have h5_2 := aw_ne_t (a := ((w.1 184 11).toInt : Int)) (b := (1 : Int)) rfl (show ((Int32.ofInt 1)).toInt = 1 from by decide) h5_2
        have hn : ¬ (t.1 = 1 ∧ t.2.2.2.2 = c) := fun e => by have := e.1; omega
        refine wk_iconst xd_1c981704 ?_
        exact wk_ireturn xd_3111431c xr_4f216aa6 wk_z0 ⟨_, rfl, .inr ⟨by decide, hn⟩⟩
      · have h5_2 := aw_ne_f (a := ((w.1 184 11).toInt : Int)) (b := (1 : Int)) rfl (show ((Int32.ofInt 1)).toInt = 1 from by decide) h5_2
        exfalso
        omega
  obtain ⟨o, hC, x, rfl, a⟩ := h
  exact ⟨x, hC, a⟩
theorem mi_ok {w : cm_W} {t : Nat × Nat × Nat × Int × Nat} {k : Int32} {c : Int} (hk : k.toInt = c) (hC0 : rm_C w t) : ∃ x, cm_C 1 118 [.inr (.inr (some 184)), .inl k] w (some (.inl x), w) ∧ ((x.toInt = 1 ∧ t.1 = 3 ∧ t.2.2.2.1 = c) ∨ (x.toInt = 0 ∧ ¬ (t.1 = 3 ∧ t.2.2.2.1 = c))) := by
  have hR := rm_C_sign hC0
  have h : ∃ o, cm_C (0 + 1) 118 [.inr (.inr (some 184)), .inl k] w o ∧ (fun o : cm_O => ∃ x, o = (some (.inl x), w) ∧ ((x.toInt = 1 ∧ t.1 = 3 ∧ t.2.2.2.1 = c) ∨ (x.toInt = 0 ∧ ¬ (t.1 = 3 ∧ t.2.2.2.1 = c)))) o := by
    refine wk_entry (by rw [xm_5eef8b31]; exact Nat.le_of_ble_eq_true rfl) ?_
    rw [show cm_ent 118 [.inr (.inr (some 184)), .inl k] = [some (.inr (.inr (some 184))), some (.inl k)] from by unfold cm_ent; rw [xm_5eef8b31]; rfl]
    refine wk_aload_n xd_035ed977 rfl ?_
    refine wk_getI xf_4dc378d0 xd_9ab3d1d7 ?_
    refine wk_iconst xd_0b0bac7b ?_
    refine wk_icmp xd_eb2f8da5 (t := 20) rfl (fun h5_0 => ?_) (fun h5_0 => ?_)
    · have h5_0 := aw_ne_t (a := ((w.1 184 11).toInt : Int)) (b := (3 : Int)) rfl (show ((Int32.ofInt 3)).toInt = 3 from by decide) h5_0
      refine wk_iconst xd_ed0d73bb ?_
      exact wk_ireturn xd_9453bfb0 xr_43b7f85a wk_z0 ⟨_, rfl, .inr ⟨by decide, by omega⟩⟩
    · have h5_0 := aw_ne_f (a := ((w.1 184 11).toInt : Int)) (b := (3 : Int)) rfl (show ((Int32.ofInt 3)).toInt = 3 from by decide) h5_0
      refine wk_aload_n xd_03e79a51 rfl ?_
      refine wk_getI xf_416c6ef6 xd_490e8ec5 ?_
      refine wk_iload_n xd_ccff4e39 rfl ?_
      refine wk_icmp xd_b66da599 (t := 20) rfl (fun h13_1 => ?_) (fun h13_1 => ?_)
      · have h13_1 := aw_ne_t (a := ((w.1 184 14).toInt : Int)) (b := (c : Int)) rfl hk h13_1
        refine wk_iconst xd_ed0d73bb ?_
        exact wk_ireturn xd_9453bfb0 xr_43b7f85a wk_z0 ⟨_, rfl, .inr ⟨by decide, by omega⟩⟩
      · have h13_1 := aw_ne_f (a := ((w.1 184 14).toInt : Int)) (b := (c : Int)) rfl hk h13_1
        refine wk_iconst xd_d47939b6 ?_
        refine wk_goto xd_9029b31f (t := 21) rfl ?_
        exact wk_ireturn xd_9453bfb0 xr_43b7f85a wk_z1 ⟨_, rfl, .inl ⟨by decide, by omega, by omega⟩⟩
  obtain ⟨o, hC, x, rfl, a⟩ := h
  exact ⟨x, hC, a⟩
theorem mg_ok {w : cm_W} {T : Nat → Int} {n m p : Nat} {k : Int32} {c : Int} (hk : k.toInt = c) (hL : rm_L w T n m p) : ∃ x w', cm_C 3 283 [.inr (.inr (some 184)), .inl k] w (some (.inl x), w') ∧ (((tx_tk T n m p).1 = 3 ∧ (tx_tk T n m p).2.2.2.1 = c ∧ x.toInt = 1 ∧ rm_L w' T n m (tx_tk T n m p).2.2.1 ∧ rm_S w w') ∨ (¬ ((tx_tk T n m p).1 = 3 ∧ (tx_tk T n m p).2.2.2.1 = c) ∧ x.toInt = 0 ∧ rm_B w w' 1 (tx_tk T n m p).2.1)) := by
  have h : ∃ o, cm_C (2 + 1) 283 [.inr (.inr (some 184)), .inl k] w o ∧ (fun o : cm_O => ∃ x w', o = (some (.inl x), w') ∧ (((tx_tk T n m p).1 = 3 ∧ (tx_tk T n m p).2.2.2.1 = c ∧ x.toInt = 1 ∧ rm_L w' T n m (tx_tk T n m p).2.2.1 ∧ rm_S w w') ∨ (¬ ((tx_tk T n m p).1 = 3 ∧ (tx_tk T n m p).2.2.2.1 = c) ∧ x.toInt = 0 ∧ rm_B w w' 1 (tx_tk T n m p).2.1))) o := by
    refine wk_entry (by rw [xm_3fd8f175]; exact Nat.le_of_ble_eq_true rfl) ?_
    rw [show cm_ent 283 [.inr (.inr (some 184)), .inl k] = [some (.inr (.inr (some 184))), some (.inl k)] from by unfold cm_ent; rw [xm_3fd8f175]; rfl]
    refine wk_aload_n xd_0af0d3df rfl ?_
    refine wk_iload_n xd_f6e0c3d6 rfl ?_
    obtain ⟨xs, hCxs, hxs⟩ := mi_ok (w := w) (c := c) hk hL.2.1
    refine wk_call (kd := 0) (i := 173) xd_51560561 rfl (wk_cal (as := [.inr (.inr (some 184)), .inl k]) (t := []) xl_31daa880 rfl xn_225279b5 xc_ca564353 rfl rfl xv_bcdeec94 rfl) (cm_C_mono (by omega) hCxs) ?_
    refine wk_if xd_1b16e129 (t := 14) rfl (fun h5_0 => ?_) (fun h5_0 => ?_)
    · have h5_0 := aw_ne_t (a := ((xs).toInt : Int)) (b := (0 : Int)) rfl hb_z h5_0
      have h3 : (tx_tk T n m p).1 = 3 := by omega
      have hnn := (tx_tk_b (m := m) (T := T) hL.2.2 ⟨by omega, by omega⟩).2.1
      have hat : (w.1 184 4).toInt = (tx_tk T n m p).2.2.1 := by
        rcases rm_C_sign hL.2.1 with ⟨_, _, a, _⟩ | ⟨a, _⟩
        · exact a
        · exact absurd h3 a
      refine wk_aload_n xd_9e52434e rfl ?_
      obtain ⟨w15_, hCw15_, hSw15_, hRw15_⟩ := mn_ok (w := w) (p := (tx_tk T n m p).2.2.1) hL.1 hat hnn
      refine wk_call (kd := 0) (i := 179) xd_747ed7d5 rfl (wk_cal (as := [.inr (.inr (some 184))]) (t := []) xl_6ace9bdc rfl xn_00af7311 xc_b2cf5bb1 rfl rfl xv_e7aa8f3d rfl) (cm_C_mono (by omega) hCw15_) ?_
      refine wk_iconst xd_16654f9e ?_
      exact wk_ireturn xd_909f988a xr_ad687204 wk_z1 ⟨_, _, rfl, .inl ⟨h3, by omega, by decide, ⟨rm_T_S hL.1 hSw15_, hRw15_, hnn⟩, hSw15_⟩⟩
    · have h5_0 := aw_ne_f (a := ((xs).toInt : Int)) (b := (0 : Int)) rfl hb_z h5_0
      refine wk_aload_n xd_0a4990f9 rfl ?_
      refine wk_iconst xd_9b47add7 ?_
      refine wk_call (kd := 0) (i := 176) xd_c3560b91 rfl (wk_cal (as := [.inr (.inr (some 184)), .inl (Int32.ofInt 1)]) (t := []) xl_68cf1b87 rfl xn_f63023b8 xc_1907b494 rfl rfl xv_a1095a1b rfl) (cm_C_mono (by omega) (mb_ok (w := w) (k := (Int32.ofInt 1)))) ?_
      exact wk_ireturn xd_51a99081 xr_ad687204 wk_z0 ⟨_, _, rfl, .inr ⟨by omega, by decide, rm_bB (by decide) hL.2.1.1⟩⟩
  obtain ⟨o, hC, x, w', rfl, a⟩ := h
  exact ⟨x, w', hC, a⟩
theorem mN_lp {w : cm_W} {t : Nat × Nat × Nat × Int × Nat} (hC0 : rm_C w t) (hW : ∀ k, k < 22 → w.2 190 k = Int64.ofNat (tx_F (tx_rw.getD k 0))) (Q : cm_O → Prop) (hk : ∀ (za vi : Int32), ((za.toInt = 1 ∧ t.1 = 1 ∧ (∀ q, q < 22 → tx_rw.getD q 0 ≠ t.2.2.2.2)) ∨ (za.toInt = 0 ∧ ¬ tx_isN t)) → cm_X (cm_C 0) 262 52 [some (.inr (.inr (some 184))), some (.inl za), some (.inl vi)] [] w Q) : ∀ (f i : Nat) (za vi : Int32), f + i = 22 → vi.toInt = (i : Int) → ((za.toInt = 1 ∧ t.1 = 1 ∧ (∀ q, q < i → tx_rw.getD q 0 ≠ t.2.2.2.2)) ∨ (za.toInt = 0 ∧ ¬ tx_isN t)) → cm_X (cm_C 0) 262 16 [some (.inr (.inr (some 184))), some (.inl za), some (.inl vi)] [] w Q := by
  intro f
  induction f with
  | zero =>
    intro i za vi hi hvi hI
    refine wk_iload_n xd_3598ed4d rfl ?_
    refine wk_bipush xd_f464551e ?_
    refine wk_icmp xd_1082b7e0 (t := 52) rfl (fun h19_0 => ?_) (fun h19_0 => ?_)
    · have h19_0 := aw_ge_t (a := ((i : Int) : Int)) (b := (22 : Int)) hvi (show (((Int8.ofInt 22).toInt32)).toInt = 22 from by decide) h19_0
      refine hk za vi ?_
      rcases hI with ⟨a, b, c⟩ | ⟨a, b⟩
      · exact .inl ⟨a, b, fun q hq => c q (by omega)⟩
      · exact .inr ⟨a, b⟩
    · have h19_0 := aw_ge_f (a := ((i : Int) : Int)) (b := (22 : Int)) hvi (show (((Int8.ofInt 22).toInt32)).toInt = 22 from by decide) h19_0
      exfalso
      omega
  | succ f ih =>
    intro i za vi hi hvi hI
    refine wk_iload_n xd_3598ed4d rfl ?_
    refine wk_bipush xd_f464551e ?_
    refine wk_icmp xd_1082b7e0 (t := 52) rfl (fun h19_1 => ?_) (fun h19_1 => ?_)
    · have h19_1 := aw_ge_t (a := ((i : Int) : Int)) (b := (22 : Int)) hvi (show (((Int8.ofInt 22).toInt32)).toInt = 22 from by decide) h19_1
      exfalso
      omega
    · have h19_1 := aw_ge_f (a := ((i : Int) : Int)) (b := (22 : Int)) hvi (show (((Int8.ofInt 22).toInt32)).toInt = 22 from by decide) h19_1
      refine wk_iload_n xd_2a7a9f26 rfl ?_
      refine wk_if xd_5657eec2 (t := 44) rfl (fun h23_2 => ?_) (fun h23_2 => ?_)
      · have h23_2 := aw_eq_t (a := ((za).toInt : Int)) (b := (0 : Int)) rfl hb_z h23_2
        have hno : ¬ tx_isN t := by
          rcases hI with ⟨a, _⟩ | ⟨_, b⟩
          · omega
          · exact b
        refine wk_iconst xd_cc0eb5b3 ?_
        refine wk_istore_n xd_edf048c6 (by rw [xm_4fb58923]; rfl) rfl ?_
        refine aw_iinc (a := ((i : Int) : Int)) (b := (1 : Int)) (e := ((i : Int) + 1 : Int)) xd_ed58578a (by rw [xm_4fb58923]; rfl) rfl rfl hvi (show ((Int32.ofInt 1)).toInt = 1 from by decide) (by omega) (by omega) (by omega) (fun v4_ p4_ => ?_)
        refine wk_goto xd_6a72c2cd (t := 16) rfl ?_
        refine ih (i + 1) _ _ (by omega) (by omega) ?_
        exact .inr ⟨by decide, hno⟩
      · have h23_2 := aw_eq_f (a := ((za).toInt : Int)) (b := (0 : Int)) rfl hb_z h23_2
        have hJ : t.1 = 1 ∧ (∀ q, q < i → tx_rw.getD q 0 ≠ t.2.2.2.2) := by
          rcases hI with ⟨_, a⟩ | ⟨a, _⟩
          · exact a
          · omega
        obtain ⟨h1, hal⟩ := hJ
        obtain ⟨hw, ht⟩ : w.2 184 17 = Int64.ofNat (tx_F t.2.2.2.2) ∧ t.2.2.2.2 < 32 ^ 7 := by
          rcases rm_C_word hC0 with ⟨_, _, _, a, b⟩ | ⟨a, _⟩
          · exact ⟨a, b⟩
          · exact absurd h1 a
        refine wk_aload_n xd_4d45c468 rfl ?_
        refine aw_getL xf_e7618199 xd_39f4985a ?_
        refine wk_aload_n xd_21aad335 rfl ?_
        refine wk_getR xf_30c08e71 xd_84c79c9b ?_
        refine wk_iload_n xd_0135f2ab rfl ?_
        refine aw_laload (i := i) xf_9e2a9fca hvi (by omega) (by omega) xd_d84f5b74 ?_
        refine aw_lcmp xd_6b7de18e ?_
        refine wk_if xd_505c5d1b (t := 44) rfl (fun h37_4 => ?_) (fun h37_4 => ?_)
        · have h37_4 := aw_eq_t (a := ((lg_cmp (w.2 184 17) (w.2 190 i)).toInt : Int)) (b := (0 : Int)) rfl hb_z h37_4
          have heq : tx_rw.getD i 0 = t.2.2.2.2 := tx_F64 (tx_rw32 (by omega)) ht (by have e9 := tx_lg1 h37_4; rw [hw, hW i (by omega)] at e9; exact e9.symm)
          refine wk_iconst xd_cc0eb5b3 ?_
          refine wk_istore_n xd_edf048c6 (by rw [xm_4fb58923]; rfl) rfl ?_
          refine aw_iinc (a := ((i : Int) : Int)) (b := (1 : Int)) (e := ((i : Int) + 1 : Int)) xd_ed58578a (by rw [xm_4fb58923]; rfl) rfl rfl hvi (show ((Int32.ofInt 1)).toInt = 1 from by decide) (by omega) (by omega) (by omega) (fun v6_ p6_ => ?_)
          refine wk_goto xd_6a72c2cd (t := 16) rfl ?_
          refine ih (i + 1) _ _ (by omega) (by omega) ?_
          exact .inr ⟨by decide, fun h => h.2 i (by omega) heq⟩
        · have h37_4 := aw_eq_f (a := ((lg_cmp (w.2 184 17) (w.2 190 i)).toInt : Int)) (b := (0 : Int)) rfl hb_z h37_4
          have hne : tx_rw.getD i 0 ≠ t.2.2.2.2 := fun e => h37_4 (by rw [hw, hW i (by omega), e]; exact tx_lg0 _)
          refine wk_iconst xd_adcf0f03 ?_
          refine wk_goto xd_ae18480e (t := 45) rfl ?_
          refine wk_istore_n xd_edf048c6 (by rw [xm_4fb58923]; rfl) rfl ?_
          refine aw_iinc (a := ((i : Int) : Int)) (b := (1 : Int)) (e := ((i : Int) + 1 : Int)) xd_ed58578a (by rw [xm_4fb58923]; rfl) rfl rfl hvi (show ((Int32.ofInt 1)).toInt = 1 from by decide) (by omega) (by omega) (by omega) (fun v7_ p7_ => ?_)
          refine wk_goto xd_6a72c2cd (t := 16) rfl ?_
          refine ih (i + 1) _ _ (by omega) (by omega) ?_
          refine .inl ⟨by decide, h1, fun q hq => ?_⟩
          by_cases e : q = i
          · rw [e]
            exact hne
          · exact hal q (by omega)
theorem mN_ok {w : cm_W} {t : Nat × Nat × Nat × Int × Nat} (hC0 : rm_C w t) (hW : ∀ k, k < 22 → w.2 190 k = Int64.ofNat (tx_F (tx_rw.getD k 0))) : ∃ x, cm_C 1 262 [.inr (.inr (some 184))] w (some (.inl x), w) ∧ ((x.toInt = 1 ∧ tx_isN t) ∨ (x.toInt = 0 ∧ ¬ tx_isN t)) := by
  have hR := rm_C_word hC0
  have h : ∃ o, cm_C (0 + 1) 262 [.inr (.inr (some 184))] w o ∧ (fun o : cm_O => ∃ x, o = (some (.inl x), w) ∧ ((x.toInt = 1 ∧ tx_isN t) ∨ (x.toInt = 0 ∧ ¬ tx_isN t))) o := by
    refine wk_entry (by rw [xm_4fb58923]; exact Nat.le_of_ble_eq_true rfl) ?_
    rw [show cm_ent 262 [.inr (.inr (some 184))] = [some (.inr (.inr (some 184))), none, none] from by unfold cm_ent; rw [xm_4fb58923]; rfl]
    refine wk_aload_n xd_9336fe05 rfl ?_
    refine wk_getI xf_9fc977a6 xd_546a3676 ?_
    refine wk_iconst xd_a6f11c14 ?_
    refine wk_icmp xd_b8080c6a (t := 12) rfl (fun h5_0 => ?_) (fun h5_0 => ?_)
    · have h5_0 := aw_ne_t (a := ((w.1 184 11).toInt : Int)) (b := (1 : Int)) rfl (show ((Int32.ofInt 1)).toInt = 1 from by decide) h5_0
      refine wk_iconst xd_25d0a474 ?_
      refine wk_istore_n xd_03fbc063 (by rw [xm_4fb58923]; rfl) rfl ?_
      refine wk_iconst xd_5721fef4 ?_
      refine wk_istore_n xd_f466e8e3 (by rw [xm_4fb58923]; rfl) rfl ?_
      refine mN_lp hC0 hW _ (fun za vi hI => ?_) 22 0 _ _ rfl (by decide) (.inr ⟨by decide, fun h => by have := h.1; omega⟩)
      refine wk_iload_n xd_1b62a851 rfl ?_
      refine wk_ireturn xd_c2746382 xr_33e3abce (aw_bit (by omega) (by omega)) ⟨_, rfl, ?_⟩
      rcases hI with ⟨a, b, c⟩ | ⟨a, b⟩
      · exact .inl ⟨a, b, c⟩
      · exact .inr ⟨a, b⟩
    · have h5_0 := aw_ne_f (a := ((w.1 184 11).toInt : Int)) (b := (1 : Int)) rfl (show ((Int32.ofInt 1)).toInt = 1 from by decide) h5_0
      refine wk_iconst xd_4313a914 ?_
      refine wk_goto xd_64a6b728 (t := 13) rfl ?_
      refine wk_istore_n xd_03fbc063 (by rw [xm_4fb58923]; rfl) rfl ?_
      refine wk_iconst xd_5721fef4 ?_
      refine wk_istore_n xd_f466e8e3 (by rw [xm_4fb58923]; rfl) rfl ?_
      refine mN_lp hC0 hW _ (fun za vi hI => ?_) 22 0 _ _ rfl (by decide) (.inl ⟨by decide, by omega, fun q hq => absurd hq (Nat.not_lt_zero q)⟩)
      refine wk_iload_n xd_1b62a851 rfl ?_
      refine wk_ireturn xd_c2746382 xr_33e3abce (aw_bit (by omega) (by omega)) ⟨_, rfl, ?_⟩
      rcases hI with ⟨a, b, c⟩ | ⟨a, b⟩
      · exact .inl ⟨a, b, c⟩
      · exact .inr ⟨a, b⟩
  obtain ⟨o, hC, x, rfl, a⟩ := h
  exact ⟨x, hC, a⟩
/-- names as the reference holds them, from place a on -/
def rm_N (w : cm_W) (a b k : Nat) (nm : Nat → Nat) : Prop := ∀ j, j < k → w.2 189 (a + j) = Int64.ofNat (tx_F (nm (b + j))) ∧ nm (b + j) < 32 ^ 7
theorem mf_lp {w : cm_W} {nm : Nat → Nat} {a b k c : Nat} {vf vm : Int32} (hN : rm_N w a b k nm) (hak : a + k ≤ 32) (hw : w.2 184 17 = Int64.ofNat (tx_F c)) (hc : c < 32 ^ 7) (hvf : vf.toInt = (a : Int)) (hvm : vm.toInt = (k : Int)) (Q : cm_O → Prop) (hQ : ∀ x : Int32, x.toInt = tx_find nm b k c → Q (some (.inl x), w)) : ∀ (f i : Nat) (vi : Int32), f + i = k → vi.toInt = (i : Int) → (∀ q, q < i → nm (b + q) ≠ c) → cm_X (cm_C 0) 255 2 [some (.inr (.inr (some 184))), some (.inl vf), some (.inl vm), some (.inl vi)] [] w Q := by
  intro f
  induction f with
  | zero =>
    intro i vi hi hvi hno
    refine wk_iload_n xd_0854d2b4 rfl ?_
    refine wk_iload_n xd_ae4711d0 rfl ?_
    refine wk_icmp xd_d2b7410f (t := 31) rfl (fun h4_0 => ?_) (fun h4_0 => ?_)
    · have h4_0 := aw_ge_t (a := ((i : Int) : Int)) (b := ((k : Int) : Int)) hvi hvm h4_0
      refine wk_iconst xd_6c2e6640 ?_
      exact wk_ireturn xd_1358abcc xr_e318fec7 rfl (hQ _ (by rw [tx_find_no (fun q hq => hno q (by omega))]; decide))
    · have h4_0 := aw_ge_f (a := ((i : Int) : Int)) (b := ((k : Int) : Int)) hvi hvm h4_0
      exfalso
      omega
  | succ f ih =>
    intro i vi hi hvi hno
    refine wk_iload_n xd_0854d2b4 rfl ?_
    refine wk_iload_n xd_ae4711d0 rfl ?_
    refine wk_icmp xd_d2b7410f (t := 31) rfl (fun h4_1 => ?_) (fun h4_1 => ?_)
    · have h4_1 := aw_ge_t (a := ((i : Int) : Int)) (b := ((k : Int) : Int)) hvi hvm h4_1
      exfalso
      omega
    · have h4_1 := aw_ge_f (a := ((i : Int) : Int)) (b := ((k : Int) : Int)) hvi hvm h4_1
      refine wk_aload_n xd_8ed8304e rfl ?_
      refine wk_getR xf_23184f55 xd_c35f79c7 ?_
      refine wk_iload_n xd_d48a4e92 rfl ?_
      refine wk_iload_n xd_d8af24cf rfl ?_
      refine aw_iadd (a := ((a : Int) : Int)) (b := ((i : Int) : Int)) (e := ((a : Int) + (i : Int) : Int)) xd_851ffe22 hvf hvi (by omega) (by omega) (by omega) (fun v3_ p3_ => ?_)
      refine aw_laload (i := (a + i)) xf_69b9f963 p3_ (by omega) (by omega) xd_5d19e06b ?_
      refine wk_aload_n xd_b3b515dc rfl ?_
      refine aw_getL xf_b7feaa81 xd_cb778345 ?_
      refine aw_lcmp xd_fa8a446a ?_
      refine wk_if xd_f4225adc (t := 25) rfl (fun h20_3 => ?_) (fun h20_3 => ?_)
      · have h20_3 := aw_ne_t (a := ((lg_cmp (w.2 189 (a + i)) (w.2 184 17)).toInt : Int)) (b := (0 : Int)) rfl hb_z h20_3
        have hne : nm (b + i) ≠ c := fun e => h20_3 (by rw [(hN i (by omega)).1, hw, e]; exact tx_lg0 _)
        refine aw_iinc (a := ((i : Int) : Int)) (b := (1 : Int)) (e := ((i : Int) + 1 : Int)) xd_f4cad5e1 (by rw [xm_e565b23e]; rfl) rfl rfl hvi (show ((Int32.ofInt 1)).toInt = 1 from by decide) (by omega) (by omega) (by omega) (fun v5_ p5_ => ?_)
        refine wk_goto xd_d737c974 (t := 2) rfl ?_
        refine ih (i + 1) _ (by omega) (by omega) (fun q hq => ?_)
        by_cases e : q = i
        · rw [e]
          exact hne
        · exact hno q (by omega)
      · have h20_3 := aw_ne_f (a := ((lg_cmp (w.2 189 (a + i)) (w.2 184 17)).toInt : Int)) (b := (0 : Int)) rfl hb_z h20_3
        have hq := h20_3
        refine wk_iload_n xd_1bc26733 rfl ?_
        have heq : nm (b + i) = c := tx_F64 (hN i (by omega)).2 hc (by have e9 := tx_lg1 hq; rw [(hN i (by omega)).1, hw] at e9; exact e9)
        exact wk_ireturn xd_f24dcaca xr_e318fec7 rfl (hQ _ (by rw [tx_find_at heq (by omega) hno]; exact hvi))
theorem mf_ok {w : cm_W} {nm : Nat → Nat} {a b k c : Nat} {vf vm : Int32} (hN : rm_N w a b k nm) (hak : a + k ≤ 32) (hw : w.2 184 17 = Int64.ofNat (tx_F c)) (hc : c < 32 ^ 7) (hvf : vf.toInt = (a : Int)) (hvm : vm.toInt = (k : Int)) : ∃ x, cm_C 1 255 [.inr (.inr (some 184)), .inl vf, .inl vm] w (some (.inl x), w) ∧ x.toInt = tx_find nm b k c := by
  have h : ∃ o, cm_C (0 + 1) 255 [.inr (.inr (some 184)), .inl vf, .inl vm] w o ∧ (fun o : cm_O => ∃ x, o = (some (.inl x), w) ∧ x.toInt = tx_find nm b k c) o := by
    refine wk_entry (by rw [xm_e565b23e]; exact Nat.le_of_ble_eq_true rfl) ?_
    rw [show cm_ent 255 [.inr (.inr (some 184)), .inl vf, .inl vm] = [some (.inr (.inr (some 184))), some (.inl vf), some (.inl vm), none] from by unfold cm_ent; rw [xm_e565b23e]; rfl]
    refine wk_iconst xd_fb37b7f4 ?_
    refine wk_istore_n xd_c6069471 (by rw [xm_e565b23e]; rfl) rfl ?_
    exact mf_lp hN hak hw hc hvf hvm _ (fun x hx => ⟨x, rfl, hx⟩) k 0 _ (by omega) (by decide) (fun q hq => absurd hq (Nat.not_lt_zero q))
  obtain ⟨o, hC, x, rfl, a⟩ := h
  exact ⟨x, hC, a⟩
theorem mt_ok {w : cm_W} {T : Nat → Int} {n m p : Nat} {a b : Int32} {lo hi : Int} (ha : a.toInt = lo) (hb : b.toInt = hi) (hL : rm_L w T n m p) : ∃ x w', cm_C 3 285 [.inr (.inr (some 184)), .inl a, .inl b] w (some (.inl x), w') ∧ ((tx_num (tx_tk T n m p) lo hi = 0 ∧ (tx_tk T n m p).1 = 2 ∧ lo ≤ (tx_tk T n m p).2.2.2.1 ∧ (tx_tk T n m p).2.2.2.1 ≤ hi ∧ x.toInt = 1 ∧ (w'.1 184 18).toInt = (tx_tk T n m p).2.2.2.1 ∧ rm_L w' T n m (tx_tk T n m p).2.2.1 ∧ rm_E w w' ∧ w'.1 184 15 = w.1 184 15) ∨ (tx_num (tx_tk T n m p) lo hi ≠ 0 ∧ x.toInt = 0 ∧ rm_B w w' (tx_num (tx_tk T n m p) lo hi) (tx_tk T n m p).2.1)) := by
  have h : ∃ o, cm_C (2 + 1) 285 [.inr (.inr (some 184)), .inl a, .inl b] w o ∧ (fun o : cm_O => ∃ x w', o = (some (.inl x), w') ∧ ((tx_num (tx_tk T n m p) lo hi = 0 ∧ (tx_tk T n m p).1 = 2 ∧ lo ≤ (tx_tk T n m p).2.2.2.1 ∧ (tx_tk T n m p).2.2.2.1 ≤ hi ∧ x.toInt = 1 ∧ (w'.1 184 18).toInt = (tx_tk T n m p).2.2.2.1 ∧ rm_L w' T n m (tx_tk T n m p).2.2.1 ∧ rm_E w w' ∧ w'.1 184 15 = w.1 184 15) ∨ (tx_num (tx_tk T n m p) lo hi ≠ 0 ∧ x.toInt = 0 ∧ rm_B w w' (tx_num (tx_tk T n m p) lo hi) (tx_tk T n m p).2.1))) o := by
    refine wk_entry (by rw [xm_c79f3443]; exact Nat.le_of_ble_eq_true rfl) ?_
    rw [show cm_ent 285 [.inr (.inr (some 184)), .inl a, .inl b] = [some (.inr (.inr (some 184))), some (.inl a), some (.inl b)] from by unfold cm_ent; rw [xm_c79f3443]; rfl]
    rcases rm_C_num hL.2.1 with ⟨h2, hkd, hat, hv⟩ | ⟨h2, hkd⟩
    · skip
      refine wk_aload_n xd_352e0e6e rfl ?_
      refine wk_getI xf_3d9c8d7e xd_17386bfa ?_
      refine wk_iconst xd_45f66a61 ?_
      refine wk_icmp xd_2d8e8bd6 (t := 14) rfl (fun h5_0 => ?_) (fun h5_0 => ?_)
      · have h5_0 := aw_eq_t (a := ((w.1 184 11).toInt : Int)) (b := (2 : Int)) rfl (show ((Int32.ofInt 2)).toInt = 2 from by decide) h5_0
        refine wk_aload_n xd_220b1e89 rfl ?_
        refine wk_getI xf_31339b58 xd_3cc71970 ?_
        refine wk_iload_n xd_458d06e1 rfl ?_
        refine wk_iload_n xd_995e96e5 rfl ?_
        obtain ⟨xi, hCi, hxi⟩ := jie_ok (w := w) (v := (w.1 184 14)) (a := a) (b := b)
        have ev : ((w.1 184 14)).toInt = ((tx_tk T n m p).2.2.2.1 : Int) := (show ((w.1 184 14)).toInt = ((tx_tk T n m p).2.2.2.1 : Int) from hv)
        rw [ev, ha, hb] at hxi
        have hxi : (lo ≤ (tx_tk T n m p).2.2.2.1 ∧ (tx_tk T n m p).2.2.2.1 ≤ hi ∧ xi.toInt = 1) ∨ (¬ (lo ≤ (tx_tk T n m p).2.2.2.1 ∧ (tx_tk T n m p).2.2.2.1 ≤ hi) ∧ xi.toInt = 0) := by
          rcases hxi with ⟨g1, g2, g3⟩ | ⟨g1, g3⟩
          · exact .inl ⟨g1, g2, by rw [g3]; decide⟩
          · exact .inr ⟨g1, by rw [g3]; decide⟩
        refine wk_call (kd := 1) (i := 182) xd_78e72907 rfl (wk_cal (as := [.inl (w.1 184 14), .inl a, .inl b]) (t := []) xl_dd44882e rfl xn_adc58d92 xc_a9508f83 rfl rfl rfl rfl) (cm_C_mono (by omega) hCi) ?_
        refine wk_if xd_81c25738 (t := 32) rfl (fun h23_1 => ?_) (fun h23_1 => ?_)
        · have h23_1 := aw_ne_t (a := ((xi).toInt : Int)) (b := (0 : Int)) rfl hb_z h23_1
          have hnn := (tx_tk_b (m := m) (T := T) hL.2.2 ⟨by omega, by omega⟩).2.1
          refine wk_aload_n xd_16faa0fc rfl ?_
          refine wk_aload_n xd_8d894a28 rfl ?_
          refine wk_getI xf_31339b58 xd_06c28965 ?_
          refine wk_putI xf_e787fe09 (fun ci => wk_fitI ci) xd_1e63a9e9 ?_
          refine wk_aload_n xd_ca744462 rfl ?_
          obtain ⟨w41_, hCw41_, hSw41_, hRw41_⟩ := mn_ok (w := (cm_u1 w 184 18 (w.1 184 14))) (p := (tx_tk T n m p).2.2.1) (rm_T_E hL.1 (rm_E_u1 (rm_E_rf w) (by omega) (by omega))) hat hnn
          refine wk_call (kd := 0) (i := 179) xd_03661162 rfl (wk_cal (as := [.inr (.inr (some 184))]) (t := []) xl_b1c37d68 rfl xn_00af7311 xc_b2cf5bb1 rfl rfl xv_e7aa8f3d rfl) (cm_C_mono (by omega) hCw41_) ?_
          refine wk_iconst xd_57766c68 ?_
          refine wk_ireturn xd_87c60e21 xr_0a5cc50c wk_z1 ⟨_, _, rfl, .inl ?_⟩
          refine ⟨?_, h2, by omega, by omega, by decide, by rw [(hSw41_ 184 18 (by omega)).1, hs_u1_self]; exact hv, ⟨rm_T_S (rm_T_E hL.1 (rm_E_u1 (rm_E_rf w) (by omega) (by omega))) hSw41_, hRw41_, hnn⟩, rm_E_tr (rm_E_u1 (rm_E_rf w) (by omega) (by omega)) (rm_E_S hSw41_), by rw [(hSw41_ 184 15 (by omega)).1]; exact hs_u1_ne (by omega)⟩
          unfold tx_num
          rw [if_pos h2, if_pos (by omega)]
        · have h23_1 := aw_ne_f (a := ((xi).toInt : Int)) (b := (0 : Int)) rfl hb_z h23_1
          refine wk_aload_n xd_97836448 rfl ?_
          refine wk_iconst xd_c464c982 ?_
          refine wk_call (kd := 0) (i := 176) xd_b1a13fd5 rfl (wk_cal (as := [.inr (.inr (some 184)), .inl (Int32.ofInt 2)]) (t := []) xl_dee079ad rfl xn_f63023b8 xc_1907b494 rfl rfl xv_a1095a1b rfl) (cm_C_mono (by omega) (mb_ok (w := w) (k := (Int32.ofInt 2)))) ?_
          refine wk_ireturn xd_f0e634da xr_0a5cc50c wk_z0 ⟨_, _, rfl, .inr ?_⟩
          have e : tx_num (tx_tk T n m p) lo hi = 2 := by
            unfold tx_num
            rw [if_pos h2, if_neg (by omega)]
          rw [e]
          exact ⟨by decide, by decide, rm_bB (by decide) hL.2.1.1⟩
      · have h5_0 := aw_eq_f (a := ((w.1 184 11).toInt : Int)) (b := (2 : Int)) rfl (show ((Int32.ofInt 2)).toInt = 2 from by decide) h5_0
        exfalso
        omega
    · skip
      refine wk_aload_n xd_352e0e6e rfl ?_
      refine wk_getI xf_3d9c8d7e xd_17386bfa ?_
      refine wk_iconst xd_45f66a61 ?_
      refine wk_icmp xd_2d8e8bd6 (t := 14) rfl (fun h5_2 => ?_) (fun h5_2 => ?_)
      · have h5_2 := aw_eq_t (a := ((w.1 184 11).toInt : Int)) (b := (2 : Int)) rfl (show ((Int32.ofInt 2)).toInt = 2 from by decide) h5_2
        exfalso
        omega
      · have h5_2 := aw_eq_f (a := ((w.1 184 11).toInt : Int)) (b := (2 : Int)) rfl (show ((Int32.ofInt 2)).toInt = 2 from by decide) h5_2
        refine wk_aload_n xd_35974d48 rfl ?_
        refine wk_iconst xd_f09cc171 ?_
        refine wk_call (kd := 0) (i := 176) xd_0f8171e2 rfl (wk_cal (as := [.inr (.inr (some 184)), .inl (Int32.ofInt 1)]) (t := []) xl_dee079ad rfl xn_f63023b8 xc_1907b494 rfl rfl xv_a1095a1b rfl) (cm_C_mono (by omega) (mb_ok (w := w) (k := (Int32.ofInt 1)))) ?_
        refine wk_ireturn xd_3a72fc27 xr_0a5cc50c wk_z0 ⟨_, _, rfl, .inr ?_⟩
        have e : tx_num (tx_tk T n m p) lo hi = 1 := by
          unfold tx_num
          rw [if_neg h2]
        rw [e]
        exact ⟨by decide, by decide, rm_bB (by decide) hL.2.1.1⟩
  obtain ⟨o, hC, x, w', rfl, a⟩ := h
  exact ⟨x, w', hC, a⟩

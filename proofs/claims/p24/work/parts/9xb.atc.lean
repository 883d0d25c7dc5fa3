set_option maxRecDepth 100000 in
theorem xm_16c7803c : ia_maxL 152 = 1 := by decide +kernel
set_option maxRecDepth 100000 in
theorem xd_787f078c : decode (ia_code 152) 0 = .ok (.iload_n 0, 1) := fdd_d (by decide +kernel)
set_option maxRecDepth 100000 in
theorem xd_e30ced58 : decode (ia_code 152) 1 = .ok (.iload_n 0, 1) := fdd_d (by decide +kernel)
set_option maxRecDepth 100000 in
theorem xd_95c386af : decode (ia_code 152) 2 = .ok (.iconst 1, 1) := fdd_d (by decide +kernel)
set_option maxRecDepth 100000 in
theorem xd_1c5f2be5 : decode (ia_code 152) 3 = .ok (.iushr, 1) := fdd_d (by decide +kernel)
set_option maxRecDepth 100000 in
theorem xd_34313181 : decode (ia_code 152) 4 = .ok (.ldc_w 265, 3) := fdd_d (by decide +kernel)
set_option maxRecDepth 100000 in
theorem xl_d5df55c4 : ia_pl (ia_cls 152) 265 = some (8, 3579139413, 0, 0, 1016) := by decide +kernel
set_option maxRecDepth 100000 in
theorem xd_bcdc5e72 : decode (ia_code 152) 7 = .ok (.iand, 1) := fdd_d (by decide +kernel)
set_option maxRecDepth 100000 in
theorem xd_5cb37005 : decode (ia_code 152) 8 = .ok (.isub, 1) := fdd_d (by decide +kernel)
set_option maxRecDepth 100000 in
theorem xd_2476fff5 : decode (ia_code 152) 9 = .ok (.istore_n 0, 1) := fdd_d (by decide +kernel)
set_option maxRecDepth 100000 in
theorem xd_0544a01c : decode (ia_code 152) 10 = .ok (.iload_n 0, 1) := fdd_d (by decide +kernel)
set_option maxRecDepth 100000 in
theorem xd_9585a786 : decode (ia_code 152) 11 = .ok (.ldc_w 266, 3) := fdd_d (by decide +kernel)
set_option maxRecDepth 100000 in
theorem xl_58dd350d : ia_pl (ia_cls 152) 266 = some (8, 3006477107, 0, 0, 1017) := by decide +kernel
set_option maxRecDepth 100000 in
theorem xd_f86d4048 : decode (ia_code 152) 14 = .ok (.iand, 1) := fdd_d (by decide +kernel)
set_option maxRecDepth 100000 in
theorem xd_9e6beb5b : decode (ia_code 152) 15 = .ok (.iload_n 0, 1) := fdd_d (by decide +kernel)
set_option maxRecDepth 100000 in
theorem xd_b2fb4ef0 : decode (ia_code 152) 16 = .ok (.iconst 2, 1) := fdd_d (by decide +kernel)
set_option maxRecDepth 100000 in
theorem xd_9029c802 : decode (ia_code 152) 17 = .ok (.iushr, 1) := fdd_d (by decide +kernel)
set_option maxRecDepth 100000 in
theorem xd_0e4f0e74 : decode (ia_code 152) 18 = .ok (.ldc_w 266, 3) := fdd_d (by decide +kernel)
set_option maxRecDepth 100000 in
theorem xd_bfc1a706 : decode (ia_code 152) 21 = .ok (.iand, 1) := fdd_d (by decide +kernel)
set_option maxRecDepth 100000 in
theorem xd_f4dc5902 : decode (ia_code 152) 22 = .ok (.iadd, 1) := fdd_d (by decide +kernel)
set_option maxRecDepth 100000 in
theorem xd_eadf11f4 : decode (ia_code 152) 23 = .ok (.istore_n 0, 1) := fdd_d (by decide +kernel)
set_option maxRecDepth 100000 in
theorem xd_5d06a8a7 : decode (ia_code 152) 24 = .ok (.iload_n 0, 1) := fdd_d (by decide +kernel)
set_option maxRecDepth 100000 in
theorem xd_c6754273 : decode (ia_code 152) 25 = .ok (.iload_n 0, 1) := fdd_d (by decide +kernel)
set_option maxRecDepth 100000 in
theorem xd_4b5e826d : decode (ia_code 152) 26 = .ok (.iconst 4, 1) := fdd_d (by decide +kernel)
set_option maxRecDepth 100000 in
theorem xd_3f8085c8 : decode (ia_code 152) 27 = .ok (.iushr, 1) := fdd_d (by decide +kernel)
set_option maxRecDepth 100000 in
theorem xd_e6599c8d : decode (ia_code 152) 28 = .ok (.iadd, 1) := fdd_d (by decide +kernel)
set_option maxRecDepth 100000 in
theorem xd_f0426438 : decode (ia_code 152) 29 = .ok (.ldc_w 267, 3) := fdd_d (by decide +kernel)
set_option maxRecDepth 100000 in
theorem xl_9082eca6 : ia_pl (ia_cls 152) 267 = some (8, 2400128783, 0, 0, 1018) := by decide +kernel
set_option maxRecDepth 100000 in
theorem xd_82a5fa3c : decode (ia_code 152) 32 = .ok (.iand, 1) := fdd_d (by decide +kernel)
set_option maxRecDepth 100000 in
theorem xd_4f5481fa : decode (ia_code 152) 33 = .ok (.istore_n 0, 1) := fdd_d (by decide +kernel)
set_option maxRecDepth 100000 in
theorem xd_dc23cd80 : decode (ia_code 152) 34 = .ok (.iload_n 0, 1) := fdd_d (by decide +kernel)
set_option maxRecDepth 100000 in
theorem xd_47502754 : decode (ia_code 152) 35 = .ok (.iload_n 0, 1) := fdd_d (by decide +kernel)
set_option maxRecDepth 100000 in
theorem xd_f583da82 : decode (ia_code 152) 36 = .ok (.bipush 8, 2) := fdd_d (by decide +kernel)
set_option maxRecDepth 100000 in
theorem xd_19782840 : decode (ia_code 152) 38 = .ok (.iushr, 1) := fdd_d (by decide +kernel)
set_option maxRecDepth 100000 in
theorem xd_dee9aa34 : decode (ia_code 152) 39 = .ok (.iadd, 1) := fdd_d (by decide +kernel)
set_option maxRecDepth 100000 in
theorem xd_d91ad47a : decode (ia_code 152) 40 = .ok (.istore_n 0, 1) := fdd_d (by decide +kernel)
set_option maxRecDepth 100000 in
theorem xd_7614b1b0 : decode (ia_code 152) 41 = .ok (.iload_n 0, 1) := fdd_d (by decide +kernel)
set_option maxRecDepth 100000 in
theorem xd_00f1888d : decode (ia_code 152) 42 = .ok (.iload_n 0, 1) := fdd_d (by decide +kernel)
set_option maxRecDepth 100000 in
theorem xd_c8d9b7d0 : decode (ia_code 152) 43 = .ok (.bipush 16, 2) := fdd_d (by decide +kernel)
set_option maxRecDepth 100000 in
theorem xd_cf171eec : decode (ia_code 152) 45 = .ok (.iushr, 1) := fdd_d (by decide +kernel)
set_option maxRecDepth 100000 in
theorem xd_62a88517 : decode (ia_code 152) 46 = .ok (.iadd, 1) := fdd_d (by decide +kernel)
set_option maxRecDepth 100000 in
theorem xd_e802e30d : decode (ia_code 152) 47 = .ok (.istore_n 0, 1) := fdd_d (by decide +kernel)
set_option maxRecDepth 100000 in
theorem xd_edde1842 : decode (ia_code 152) 48 = .ok (.iload_n 0, 1) := fdd_d (by decide +kernel)
set_option maxRecDepth 100000 in
theorem xd_f01398d7 : decode (ia_code 152) 49 = .ok (.bipush 63, 2) := fdd_d (by decide +kernel)
set_option maxRecDepth 100000 in
theorem xd_f5ff2c4d : decode (ia_code 152) 51 = .ok (.iand, 1) := fdd_d (by decide +kernel)
set_option maxRecDepth 100000 in
theorem xd_1c6d2027 : decode (ia_code 152) 52 = .ok (.ireturn, 1) := fdd_d (by decide +kernel)
set_option maxRecDepth 100000 in
theorem xr_8f1692e6 : ia_ret 152 = some .int := by decide +kernel
set_option maxRecDepth 100000 in
theorem xd_bf69af38 : decode (ia_code 177) 8 = .ok (.iload 5, 2) := fdd_d (by decide +kernel)
set_option maxRecDepth 100000 in
theorem xd_53e1f94f : decode (ia_code 177) 10 = .ok (.aload_n 0, 1) := fdd_d (by decide +kernel)
set_option maxRecDepth 100000 in
theorem xd_dea5c2b6 : decode (ia_code 177) 11 = .ok (.getfield 28, 3) := fdd_d (by decide +kernel)
set_option maxRecDepth 100000 in
theorem xf_501d09a7 : wk_gf 177 28 4 4 0 = true := by decide +kernel
set_option maxRecDepth 100000 in
theorem xd_96de0251 : decode (ia_code 177) 14 = .ok (.if_icmp .ge 49, 3) := fdd_d (by decide +kernel)
set_option maxRecDepth 100000 in
theorem xd_34df7708 : decode (ia_code 177) 63 = .ok (.iload_n 2, 1) := fdd_d (by decide +kernel)
set_option maxRecDepth 100000 in
theorem xd_e1b482d4 : decode (ia_code 177) 64 = .ok (.ifCond .eq 13, 3) := fdd_d (by decide +kernel)
set_option maxRecDepth 100000 in
theorem xd_956533b1 : decode (ia_code 177) 77 = .ok (.aload_n 0, 1) := fdd_d (by decide +kernel)
set_option maxRecDepth 100000 in
theorem xd_46323b12 : decode (ia_code 177) 78 = .ok (.getfield 45, 3) := fdd_d (by decide +kernel)
set_option maxRecDepth 100000 in
theorem xf_ccf60d74 : wk_gf 177 45 4 0 0 = true := by decide +kernel
set_option maxRecDepth 100000 in
theorem xd_c5e8aced : decode (ia_code 177) 81 = .ok (.ifCond .le 18, 3) := fdd_d (by decide +kernel)
set_option maxRecDepth 100000 in
theorem xd_6d307b29 : decode (ia_code 177) 84 = .ok (.iconst 0, 1) := fdd_d (by decide +kernel)
set_option maxRecDepth 100000 in
theorem xd_fc85114c : decode (ia_code 177) 85 = .ok (.iload_n 1, 1) := fdd_d (by decide +kernel)
set_option maxRecDepth 100000 in
theorem xd_f0a07b11 : decode (ia_code 177) 86 = .ok (.iload_n 3, 1) := fdd_d (by decide +kernel)
set_option maxRecDepth 100000 in
theorem xd_7ca7aec1 : decode (ia_code 177) 87 = .ok (.isub, 1) := fdd_d (by decide +kernel)
set_option maxRecDepth 100000 in
theorem xl_5e7926f0 : ia_pl (ia_cls 177) 40 = some (17, 0, 0, 0, 1042) := by decide +kernel
set_option maxRecDepth 100000 in
theorem xd_a2d7542a : decode (ia_code 177) 88 = .ok (.invokestatic 40, 3) := fdd_d (by decide +kernel)
set_option maxRecDepth 100000 in
theorem xd_1a9f2f25 : decode (ia_code 177) 91 = .ok (.aload_n 0, 1) := fdd_d (by decide +kernel)
set_option maxRecDepth 100000 in
theorem xd_90a87ef5 : decode (ia_code 177) 92 = .ok (.getfield 45, 3) := fdd_d (by decide +kernel)
set_option maxRecDepth 100000 in
theorem xd_ed9c14f8 : decode (ia_code 177) 95 = .ok (.idiv, 1) := fdd_d (by decide +kernel)
set_option maxRecDepth 100000 in
theorem xd_5872e640 : decode (ia_code 177) 96 = .ok (.goto 4, 3) := fdd_d (by decide +kernel)
set_option maxRecDepth 100000 in
theorem xd_9f88f1de : decode (ia_code 177) 100 = .ok (.ireturn, 1) := fdd_d (by decide +kernel)
set_option maxRecDepth 100000 in
theorem xr_7357e558 : ia_ret 177 = some .int := by decide +kernel
set_option maxRecDepth 100000 in
theorem xd_09e3ff2b : decode (ia_code 177) 67 = .ok (.iload_n 3, 1) := fdd_d (by decide +kernel)
set_option maxRecDepth 100000 in
theorem xd_ee2caa53 : decode (ia_code 177) 68 = .ok (.iload 4, 2) := fdd_d (by decide +kernel)
set_option maxRecDepth 100000 in
theorem xd_de16326b : decode (ia_code 177) 70 = .ok (.isub, 1) := fdd_d (by decide +kernel)
set_option maxRecDepth 100000 in
theorem xd_1fccbb16 : decode (ia_code 177) 71 = .ok (.iload_n 1, 1) := fdd_d (by decide +kernel)
set_option maxRecDepth 100000 in
theorem xd_32d6b871 : decode (ia_code 177) 72 = .ok (.if_icmp .lt 5, 3) := fdd_d (by decide +kernel)
set_option maxRecDepth 100000 in
theorem xd_10e1f74e : decode (ia_code 177) 75 = .ok (.iconst (-1), 1) := fdd_d (by decide +kernel)
set_option maxRecDepth 100000 in
theorem xd_6bb87c86 : decode (ia_code 177) 76 = .ok (.ireturn, 1) := fdd_d (by decide +kernel)
set_option maxRecDepth 100000 in
theorem xd_059be1ec : decode (ia_code 177) 17 = .ok (.iload_n 2, 1) := fdd_d (by decide +kernel)
set_option maxRecDepth 100000 in
theorem xd_b695bda3 : decode (ia_code 177) 18 = .ok (.iload 5, 2) := fdd_d (by decide +kernel)
set_option maxRecDepth 100000 in
theorem xl_54f5b421 : ia_pl (ia_cls 177) 33 = some (1, 183, 1, 0, 1039) := by decide +kernel
set_option maxRecDepth 100000 in
theorem xd_161903f1 : decode (ia_code 177) 20 = .ok (.invokestatic 33, 3) := fdd_d (by decide +kernel)
set_option maxRecDepth 100000 in
theorem xd_2a6b4eb6 : decode (ia_code 177) 23 = .ok (.istore 6, 2) := fdd_d (by decide +kernel)
set_option maxRecDepth 100000 in
theorem xm_7a8c0b72 : ia_maxL 177 = 7 := by decide +kernel
set_option maxRecDepth 100000 in
theorem xd_609ce460 : decode (ia_code 177) 25 = .ok (.iload 6, 2) := fdd_d (by decide +kernel)
set_option maxRecDepth 100000 in
theorem xd_0acd0932 : decode (ia_code 177) 27 = .ok (.ifCond .le 30, 3) := fdd_d (by decide +kernel)
set_option maxRecDepth 100000 in
theorem xd_057fcb3f : decode (ia_code 177) 57 = .ok (.iinc 5 1, 3) := fdd_d (by decide +kernel)
set_option maxRecDepth 100000 in
theorem xd_2174aec3 : decode (ia_code 177) 60 = .ok (.goto (-52), 3) := fdd_d (by decide +kernel)
set_option maxRecDepth 100000 in
theorem xd_97799cfd : decode (ia_code 177) 30 = .ok (.iload_n 3, 1) := fdd_d (by decide +kernel)
set_option maxRecDepth 100000 in
theorem xd_654d841b : decode (ia_code 177) 31 = .ok (.iload 6, 2) := fdd_d (by decide +kernel)
set_option maxRecDepth 100000 in
theorem xd_fc3f0c7d : decode (ia_code 177) 33 = .ok (.aload_n 0, 1) := fdd_d (by decide +kernel)
set_option maxRecDepth 100000 in
theorem xd_dcd51758 : decode (ia_code 177) 34 = .ok (.getfield 37, 3) := fdd_d (by decide +kernel)
set_option maxRecDepth 100000 in
theorem xf_b499f865 : wk_gf 177 37 4 13 (11 + 3) = true := by decide +kernel
set_option maxRecDepth 100000 in
theorem xd_d4d0fb0d : decode (ia_code 177) 37 = .ok (.iload 5, 2) := fdd_d (by decide +kernel)
set_option maxRecDepth 100000 in
theorem xd_52af2b55 : decode (ia_code 177) 39 = .ok (.iaload, 1) := fdd_d (by decide +kernel)
set_option maxRecDepth 100000 in
theorem xd_f591ed30 : decode (ia_code 177) 40 = .ok (.imul, 1) := fdd_d (by decide +kernel)
set_option maxRecDepth 100000 in
theorem xd_2599ab5a : decode (ia_code 177) 41 = .ok (.iadd, 1) := fdd_d (by decide +kernel)
set_option maxRecDepth 100000 in
theorem xd_86ecd984 : decode (ia_code 177) 42 = .ok (.istore_n 3, 1) := fdd_d (by decide +kernel)
set_option maxRecDepth 100000 in
theorem xd_9e90e846 : decode (ia_code 177) 43 = .ok (.iload 4, 2) := fdd_d (by decide +kernel)
set_option maxRecDepth 100000 in
theorem xd_20ed4970 : decode (ia_code 177) 45 = .ok (.aload_n 0, 1) := fdd_d (by decide +kernel)
set_option maxRecDepth 100000 in
theorem xd_94704a23 : decode (ia_code 177) 46 = .ok (.getfield 37, 3) := fdd_d (by decide +kernel)
set_option maxRecDepth 100000 in
theorem xd_62c6c9fd : decode (ia_code 177) 49 = .ok (.iload 5, 2) := fdd_d (by decide +kernel)
set_option maxRecDepth 100000 in
theorem xd_3949f821 : decode (ia_code 177) 51 = .ok (.iaload, 1) := fdd_d (by decide +kernel)
set_option maxRecDepth 100000 in
theorem xd_3f9152e9 : decode (ia_code 177) 52 = .ok (.invokestatic 40, 3) := fdd_d (by decide +kernel)
set_option maxRecDepth 100000 in
theorem xd_54e3dff8 : decode (ia_code 177) 55 = .ok (.istore 4, 2) := fdd_d (by decide +kernel)
set_option maxRecDepth 100000 in
theorem xd_cd8ff705 : decode (ia_code 177) 0 = .ok (.iconst 0, 1) := fdd_d (by decide +kernel)
set_option maxRecDepth 100000 in
theorem xd_bd7d33a5 : decode (ia_code 177) 1 = .ok (.istore_n 3, 1) := fdd_d (by decide +kernel)
set_option maxRecDepth 100000 in
theorem xd_e3df3e85 : decode (ia_code 177) 2 = .ok (.iconst 0, 1) := fdd_d (by decide +kernel)
set_option maxRecDepth 100000 in
theorem xd_419a9235 : decode (ia_code 177) 3 = .ok (.istore 4, 2) := fdd_d (by decide +kernel)
set_option maxRecDepth 100000 in
theorem xd_860600c5 : decode (ia_code 177) 5 = .ok (.iconst 0, 1) := fdd_d (by decide +kernel)
set_option maxRecDepth 100000 in
theorem xd_37734c45 : decode (ia_code 177) 6 = .ok (.istore 5, 2) := fdd_d (by decide +kernel)
set_option maxRecDepth 100000 in
theorem xd_78be3594 : decode (ia_code 181) 5 = .ok (.iload 4, 2) := fdd_d (by decide +kernel)
set_option maxRecDepth 100000 in
theorem xd_0cbefde4 : decode (ia_code 181) 7 = .ok (.iload_n 1, 1) := fdd_d (by decide +kernel)
set_option maxRecDepth 100000 in
theorem xd_f9da21cb : decode (ia_code 181) 8 = .ok (.if_icmp .ge 43, 3) := fdd_d (by decide +kernel)
set_option maxRecDepth 100000 in
theorem xd_09c86205 : decode (ia_code 181) 51 = .ok (.iload_n 3, 1) := fdd_d (by decide +kernel)
set_option maxRecDepth 100000 in
theorem xd_b1208b81 : decode (ia_code 181) 52 = .ok (.ireturn, 1) := fdd_d (by decide +kernel)
set_option maxRecDepth 100000 in
theorem xr_85268e73 : ia_ret 181 = some .int := by decide +kernel
set_option maxRecDepth 100000 in
theorem xd_5daed5ea : decode (ia_code 181) 11 = .ok (.iload_n 2, 1) := fdd_d (by decide +kernel)
set_option maxRecDepth 100000 in
theorem xd_acf2a624 : decode (ia_code 181) 12 = .ok (.iload 4, 2) := fdd_d (by decide +kernel)
set_option maxRecDepth 100000 in
theorem xl_e236ee78 : ia_pl (ia_cls 181) 33 = some (1, 183, 1, 0, 1039) := by decide +kernel
set_option maxRecDepth 100000 in
theorem xd_b3151e61 : decode (ia_code 181) 14 = .ok (.invokestatic 33, 3) := fdd_d (by decide +kernel)
set_option maxRecDepth 100000 in
theorem xd_6806d3e6 : decode (ia_code 181) 17 = .ok (.istore 5, 2) := fdd_d (by decide +kernel)
set_option maxRecDepth 100000 in
theorem xm_739d7c91 : ia_maxL 181 = 6 := by decide +kernel
set_option maxRecDepth 100000 in
theorem xd_7dd416c1 : decode (ia_code 181) 19 = .ok (.aload_n 0, 1) := fdd_d (by decide +kernel)
set_option maxRecDepth 100000 in
theorem xd_13d8aa4e : decode (ia_code 181) 20 = .ok (.getfield 18, 3) := fdd_d (by decide +kernel)
set_option maxRecDepth 100000 in
theorem xf_04597d8b : wk_gf 181 18 128 2 (129 + 3) = true := by decide +kernel
set_option maxRecDepth 100000 in
theorem xd_0a5088fa : decode (ia_code 181) 23 = .ok (.iload 4, 2) := fdd_d (by decide +kernel)
set_option maxRecDepth 100000 in
theorem xd_909c21ad : decode (ia_code 181) 25 = .ok (.dup2, 1) := fdd_d (by decide +kernel)
set_option maxRecDepth 100000 in
theorem xd_e38ce5a5 : decode (ia_code 181) 26 = .ok (.iaload, 1) := fdd_d (by decide +kernel)
set_option maxRecDepth 100000 in
theorem xf_d002a5c0 : wk_ar 129 50 4 = true := by decide +kernel
set_option maxRecDepth 100000 in
theorem xd_ab8e22ab : decode (ia_code 181) 27 = .ok (.iconst 1, 1) := fdd_d (by decide +kernel)
set_option maxRecDepth 100000 in
theorem xd_69dc2adf : decode (ia_code 181) 28 = .ok (.iload 5, 2) := fdd_d (by decide +kernel)
set_option maxRecDepth 100000 in
theorem xd_33f711a5 : decode (ia_code 181) 30 = .ok (.ishl, 1) := fdd_d (by decide +kernel)
set_option maxRecDepth 100000 in
theorem xd_f03facfd : decode (ia_code 181) 31 = .ok (.ior, 1) := fdd_d (by decide +kernel)
set_option maxRecDepth 100000 in
theorem xd_64ec2280 : decode (ia_code 181) 32 = .ok (.iastore, 1) := fdd_d (by decide +kernel)
set_option maxRecDepth 100000 in
theorem xd_2018c58a : decode (ia_code 181) 33 = .ok (.iload 5, 2) := fdd_d (by decide +kernel)
set_option maxRecDepth 100000 in
theorem xd_e6793781 : decode (ia_code 181) 35 = .ok (.ifCond .le 10, 3) := fdd_d (by decide +kernel)
set_option maxRecDepth 100000 in
theorem xd_39a2ae62 : decode (ia_code 181) 45 = .ok (.iinc 4 1, 3) := fdd_d (by decide +kernel)
set_option maxRecDepth 100000 in
theorem xd_5732ae60 : decode (ia_code 181) 48 = .ok (.goto (-43), 3) := fdd_d (by decide +kernel)
set_option maxRecDepth 100000 in
theorem xd_223f99a7 : decode (ia_code 181) 38 = .ok (.iload_n 3, 1) := fdd_d (by decide +kernel)
set_option maxRecDepth 100000 in
theorem xd_fb4fb4ff : decode (ia_code 181) 39 = .ok (.iconst 1, 1) := fdd_d (by decide +kernel)
set_option maxRecDepth 100000 in
theorem xd_03bf5099 : decode (ia_code 181) 40 = .ok (.iload 4, 2) := fdd_d (by decide +kernel)
set_option maxRecDepth 100000 in
theorem xd_7c1df16d : decode (ia_code 181) 42 = .ok (.ishl, 1) := fdd_d (by decide +kernel)
set_option maxRecDepth 100000 in
theorem xd_c52d365e : decode (ia_code 181) 43 = .ok (.ior, 1) := fdd_d (by decide +kernel)
set_option maxRecDepth 100000 in
theorem xd_6fd74985 : decode (ia_code 181) 44 = .ok (.istore_n 3, 1) := fdd_d (by decide +kernel)
set_option maxRecDepth 100000 in
theorem xd_2bbecd39 : decode (ia_code 181) 0 = .ok (.iconst 0, 1) := fdd_d (by decide +kernel)
set_option maxRecDepth 100000 in
theorem xd_088275d9 : decode (ia_code 181) 1 = .ok (.istore_n 3, 1) := fdd_d (by decide +kernel)
set_option maxRecDepth 100000 in
theorem xd_05ee04b9 : decode (ia_code 181) 2 = .ok (.iconst 0, 1) := fdd_d (by decide +kernel)
set_option maxRecDepth 100000 in
theorem xd_a7aba809 : decode (ia_code 181) 3 = .ok (.istore 4, 2) := fdd_d (by decide +kernel)
set_option maxRecDepth 100000 in
theorem xd_1d5f51ce : decode (ia_code 180) 7 = .ok (.iload 4, 2) := fdd_d (by decide +kernel)
set_option maxRecDepth 100000 in
theorem xd_06d06a2f : decode (ia_code 180) 9 = .ok (.iload_n 1, 1) := fdd_d (by decide +kernel)
set_option maxRecDepth 100000 in
theorem xd_9311bfa9 : decode (ia_code 180) 10 = .ok (.if_icmp .ge 33, 3) := fdd_d (by decide +kernel)
set_option maxRecDepth 100000 in
theorem xd_3697e63a : decode (ia_code 180) 43 = .ok (.iload_n 2, 1) := fdd_d (by decide +kernel)
set_option maxRecDepth 100000 in
theorem xd_f5be7a89 : decode (ia_code 180) 44 = .ok (.ireturn, 1) := fdd_d (by decide +kernel)
set_option maxRecDepth 100000 in
theorem xr_58b057f6 : ia_ret 180 = some .int := by decide +kernel
set_option maxRecDepth 100000 in
theorem xd_fe779d4f : decode (ia_code 180) 13 = .ok (.aload_n 0, 1) := fdd_d (by decide +kernel)
set_option maxRecDepth 100000 in
theorem xd_7935d469 : decode (ia_code 180) 14 = .ok (.getfield 18, 3) := fdd_d (by decide +kernel)
set_option maxRecDepth 100000 in
theorem xf_6ad566ca : wk_gf 180 18 128 2 (129 + 3) = true := by decide +kernel
set_option maxRecDepth 100000 in
theorem xd_845ab10f : decode (ia_code 180) 17 = .ok (.iload 4, 2) := fdd_d (by decide +kernel)
set_option maxRecDepth 100000 in
theorem xd_65287240 : decode (ia_code 180) 19 = .ok (.iaload, 1) := fdd_d (by decide +kernel)
set_option maxRecDepth 100000 in
theorem xl_d5e7fd84 : ia_pl (ia_cls 180) 65 = some (1, 152, 1, 0, 1116) := by decide +kernel
set_option maxRecDepth 100000 in
theorem xn_6a7a72b8 : ia_na 152 = 1 := by decide +kernel
set_option maxRecDepth 100000 in
theorem xc_9f5e1774 : ia_mc 152 = 0 ∧ ia_ms 152 = 0 := ⟨by decide +kernel, by decide +kernel⟩
set_option maxRecDepth 100000 in
theorem xd_49a5ad48 : decode (ia_code 180) 20 = .ok (.invokestatic 65, 3) := fdd_d (by decide +kernel)
set_option maxRecDepth 100000 in
theorem xd_a55fdf4c : decode (ia_code 180) 23 = .ok (.istore 5, 2) := fdd_d (by decide +kernel)
set_option maxRecDepth 100000 in
theorem xm_4efd5521 : ia_maxL 180 = 6 := by decide +kernel
set_option maxRecDepth 100000 in
theorem xd_64863482 : decode (ia_code 180) 25 = .ok (.iload 5, 2) := fdd_d (by decide +kernel)
set_option maxRecDepth 100000 in
theorem xd_bb963c49 : decode (ia_code 180) 27 = .ok (.iload_n 3, 1) := fdd_d (by decide +kernel)
set_option maxRecDepth 100000 in
theorem xd_5d41979d : decode (ia_code 180) 28 = .ok (.if_icmp .le 9, 3) := fdd_d (by decide +kernel)
set_option maxRecDepth 100000 in
theorem xd_865659db : decode (ia_code 180) 37 = .ok (.iinc 4 1, 3) := fdd_d (by decide +kernel)
set_option maxRecDepth 100000 in
theorem xd_412d514d : decode (ia_code 180) 40 = .ok (.goto (-33), 3) := fdd_d (by decide +kernel)
set_option maxRecDepth 100000 in
theorem xd_615754f9 : decode (ia_code 180) 31 = .ok (.iload 5, 2) := fdd_d (by decide +kernel)
set_option maxRecDepth 100000 in
theorem xd_912a7f47 : decode (ia_code 180) 33 = .ok (.istore_n 3, 1) := fdd_d (by decide +kernel)
set_option maxRecDepth 100000 in
theorem xd_d114fa6c : decode (ia_code 180) 34 = .ok (.iload 4, 2) := fdd_d (by decide +kernel)
set_option maxRecDepth 100000 in
theorem xd_4469ad8f : decode (ia_code 180) 36 = .ok (.istore_n 2, 1) := fdd_d (by decide +kernel)
set_option maxRecDepth 100000 in
theorem xd_9d8cc8e8 : decode (ia_code 180) 0 = .ok (.iconst (-1), 1) := fdd_d (by decide +kernel)
set_option maxRecDepth 100000 in
theorem xd_5b6e4728 : decode (ia_code 180) 1 = .ok (.istore_n 2, 1) := fdd_d (by decide +kernel)
set_option maxRecDepth 100000 in
theorem xd_a06594b7 : decode (ia_code 180) 2 = .ok (.iconst 0, 1) := fdd_d (by decide +kernel)
set_option maxRecDepth 100000 in
theorem xd_bf35a297 : decode (ia_code 180) 3 = .ok (.istore_n 3, 1) := fdd_d (by decide +kernel)
set_option maxRecDepth 100000 in
theorem xd_d294ce37 : decode (ia_code 180) 4 = .ok (.iconst 0, 1) := fdd_d (by decide +kernel)
set_option maxRecDepth 100000 in
theorem xd_70d16287 : decode (ia_code 180) 5 = .ok (.istore 4, 2) := fdd_d (by decide +kernel)
set_option maxRecDepth 100000 in
theorem xd_6587761c : decode (ia_code 178) 48 = .ok (.iload 7, 2) := fdd_d (by decide +kernel)
set_option maxRecDepth 100000 in
theorem xd_6a3d321a : decode (ia_code 178) 50 = .ok (.iload 6, 2) := fdd_d (by decide +kernel)
set_option maxRecDepth 100000 in
theorem xd_5a7da50e : decode (ia_code 178) 52 = .ok (.if_icmp .ge 45, 3) := fdd_d (by decide +kernel)
set_option maxRecDepth 100000 in
theorem xd_da7e9c8f : decode (ia_code 178) 55 = .ok (.iload 7, 2) := fdd_d (by decide +kernel)
set_option maxRecDepth 100000 in
theorem xl_bfc13c36 : ia_pl (ia_cls 178) 52 = some (1, 176, 1, 0, 1106) := by decide +kernel
set_option maxRecDepth 100000 in
theorem xd_565c1ad9 : decode (ia_code 178) 57 = .ok (.invokestatic 52, 3) := fdd_d (by decide +kernel)
set_option maxRecDepth 100000 in
theorem xd_2195aa9e : decode (ia_code 178) 60 = .ok (.istore 8, 2) := fdd_d (by decide +kernel)
set_option maxRecDepth 100000 in
theorem xm_1f64b1a4 : ia_maxL 178 = 9 := by decide +kernel
set_option maxRecDepth 100000 in
theorem xd_a258a46d : decode (ia_code 178) 62 = .ok (.aload_n 1, 1) := fdd_d (by decide +kernel)
set_option maxRecDepth 100000 in
theorem xd_2488e704 : decode (ia_code 178) 63 = .ok (.iload_n 2, 1) := fdd_d (by decide +kernel)
set_option maxRecDepth 100000 in
theorem xd_fe8c2580 : decode (ia_code 178) 64 = .ok (.iload 8, 2) := fdd_d (by decide +kernel)
set_option maxRecDepth 100000 in
theorem xl_c9b3e5bc : ia_pl (ia_cls 178) 55 = some (1, 177, 1, 0, 1107) := by decide +kernel
set_option maxRecDepth 100000 in
theorem xd_c3da3af5 : decode (ia_code 178) 66 = .ok (.invokestatic 55, 3) := fdd_d (by decide +kernel)
set_option maxRecDepth 100000 in
theorem xd_f4c75e7b : decode (ia_code 178) 69 = .ok (.iload_n 3, 1) := fdd_d (by decide +kernel)
set_option maxRecDepth 100000 in
theorem xd_10631efa : decode (ia_code 178) 70 = .ok (.if_icmp .ne 21, 3) := fdd_d (by decide +kernel)
set_option maxRecDepth 100000 in
theorem xd_6d1e34b9 : decode (ia_code 178) 91 = .ok (.iinc 7 1, 3) := fdd_d (by decide +kernel)
set_option maxRecDepth 100000 in
theorem xd_9e690d9a : decode (ia_code 178) 94 = .ok (.goto (-46), 3) := fdd_d (by decide +kernel)
set_option maxRecDepth 100000 in
theorem xd_9fd5d6f8 : decode (ia_code 178) 73 = .ok (.iinc 4 1, 3) := fdd_d (by decide +kernel)
set_option maxRecDepth 100000 in
theorem xd_f5f0848c : decode (ia_code 178) 76 = .ok (.iload 5, 2) := fdd_d (by decide +kernel)
set_option maxRecDepth 100000 in
theorem xd_f3327835 : decode (ia_code 178) 78 = .ok (.aload_n 0, 1) := fdd_d (by decide +kernel)
set_option maxRecDepth 100000 in
theorem xd_5521bb51 : decode (ia_code 178) 79 = .ok (.aload_n 1, 1) := fdd_d (by decide +kernel)
set_option maxRecDepth 100000 in
theorem xd_95a0158c : decode (ia_code 178) 80 = .ok (.getfield 28, 3) := fdd_d (by decide +kernel)
set_option maxRecDepth 100000 in
theorem xf_969f3a72 : wk_gf 178 28 4 4 0 = true := by decide +kernel
set_option maxRecDepth 100000 in
theorem xd_5cd9df58 : decode (ia_code 178) 83 = .ok (.iload 8, 2) := fdd_d (by decide +kernel)
set_option maxRecDepth 100000 in
theorem xl_da5d09eb : ia_pl (ia_cls 178) 59 = some (1, 181, 0, 0, 1108) := by decide +kernel
set_option maxRecDepth 100000 in
theorem xn_7f4a7a9a : ia_na 181 = 3 := by decide +kernel
set_option maxRecDepth 100000 in
theorem xc_28ab8081 : ia_mc 181 = 0 ∧ ia_ms 181 = 0 := ⟨by decide +kernel, by decide +kernel⟩
set_option maxRecDepth 100000 in
theorem xv_dd0559df : cm_rcv 181 [.inr (.inr (some 128))] = true := by decide +kernel
set_option maxRecDepth 100000 in
theorem xd_504f4068 : decode (ia_code 178) 85 = .ok (.invokevirtual 59, 3) := fdd_d (by decide +kernel)
set_option maxRecDepth 100000 in
theorem xd_405298f6 : decode (ia_code 178) 88 = .ok (.iand, 1) := fdd_d (by decide +kernel)
set_option maxRecDepth 100000 in
theorem xd_9a1d1db3 : decode (ia_code 178) 89 = .ok (.istore 5, 2) := fdd_d (by decide +kernel)
set_option maxRecDepth 100000 in
theorem xd_2fd4981a : decode (ia_code 178) 0 = .ok (.iconst 0, 1) := fdd_d (by decide +kernel)
set_option maxRecDepth 100000 in
theorem xd_8d9134aa : decode (ia_code 178) 1 = .ok (.istore 4, 2) := fdd_d (by decide +kernel)
set_option maxRecDepth 100000 in
theorem xd_2bcc1cea : decode (ia_code 178) 3 = .ok (.iconst 1, 1) := fdd_d (by decide +kernel)
set_option maxRecDepth 100000 in
theorem xd_823b0c93 : decode (ia_code 178) 4 = .ok (.aload_n 1, 1) := fdd_d (by decide +kernel)
set_option maxRecDepth 100000 in
theorem xd_98889458 : decode (ia_code 178) 5 = .ok (.getfield 28, 3) := fdd_d (by decide +kernel)
set_option maxRecDepth 100000 in
theorem xd_b3ad1eaa : decode (ia_code 178) 8 = .ok (.ishl, 1) := fdd_d (by decide +kernel)
set_option maxRecDepth 100000 in
theorem xd_bcdff36a : decode (ia_code 178) 9 = .ok (.iconst 1, 1) := fdd_d (by decide +kernel)
set_option maxRecDepth 100000 in
theorem xd_9f502138 : decode (ia_code 178) 10 = .ok (.isub, 1) := fdd_d (by decide +kernel)
set_option maxRecDepth 100000 in
theorem xd_b8949241 : decode (ia_code 178) 11 = .ok (.istore 5, 2) := fdd_d (by decide +kernel)
set_option maxRecDepth 100000 in
theorem xd_1ec9ba01 : decode (ia_code 178) 13 = .ok (.iconst 0, 1) := fdd_d (by decide +kernel)
set_option maxRecDepth 100000 in
theorem xd_b4bd1f51 : decode (ia_code 178) 14 = .ok (.istore 6, 2) := fdd_d (by decide +kernel)
set_option maxRecDepth 100000 in
theorem xd_c0a1a4dc : decode (ia_code 178) 16 = .ok (.iload 6, 2) := fdd_d (by decide +kernel)
set_option maxRecDepth 100000 in
theorem xd_6b729781 : decode (ia_code 178) 18 = .ok (.iconst 4, 1) := fdd_d (by decide +kernel)
set_option maxRecDepth 100000 in
theorem xd_286feac3 : decode (ia_code 178) 19 = .ok (.if_icmp .ge 17, 3) := fdd_d (by decide +kernel)
set_option maxRecDepth 100000 in
theorem xd_f63e1382 : decode (ia_code 178) 22 = .ok (.aload_n 0, 1) := fdd_d (by decide +kernel)
set_option maxRecDepth 100000 in
theorem xd_66bab7a2 : decode (ia_code 178) 23 = .ok (.getfield 18, 3) := fdd_d (by decide +kernel)
set_option maxRecDepth 100000 in
theorem xf_a1f1abfb : wk_gf 178 18 128 2 (129 + 3) = true := by decide +kernel
set_option maxRecDepth 100000 in
theorem xd_f9d9099c : decode (ia_code 178) 26 = .ok (.iload 6, 2) := fdd_d (by decide +kernel)
set_option maxRecDepth 100000 in
theorem xd_e817087c : decode (ia_code 178) 28 = .ok (.iconst 0, 1) := fdd_d (by decide +kernel)
set_option maxRecDepth 100000 in
theorem xd_294298f6 : decode (ia_code 178) 29 = .ok (.iastore, 1) := fdd_d (by decide +kernel)
set_option maxRecDepth 100000 in
theorem xd_316ecb02 : decode (ia_code 178) 30 = .ok (.iinc 6 1, 3) := fdd_d (by decide +kernel)
set_option maxRecDepth 100000 in
theorem xd_8a787305 : decode (ia_code 178) 33 = .ok (.goto (-17), 3) := fdd_d (by decide +kernel)
set_option maxRecDepth 100000 in
theorem xd_4a27fe86 : decode (ia_code 178) 36 = .ok (.aload_n 1, 1) := fdd_d (by decide +kernel)
set_option maxRecDepth 100000 in
theorem xd_fc8e2960 : decode (ia_code 178) 37 = .ok (.getfield 28, 3) := fdd_d (by decide +kernel)
set_option maxRecDepth 100000 in
theorem xl_96cb4fe1 : ia_pl (ia_cls 178) 48 = some (1, 179, 1, 0, 1105) := by decide +kernel
set_option maxRecDepth 100000 in
theorem xd_19b63b68 : decode (ia_code 178) 40 = .ok (.invokestatic 48, 3) := fdd_d (by decide +kernel)
set_option maxRecDepth 100000 in
theorem xd_4a4b6a56 : decode (ia_code 178) 43 = .ok (.istore 6, 2) := fdd_d (by decide +kernel)
set_option maxRecDepth 100000 in
theorem xd_f717abc6 : decode (ia_code 178) 45 = .ok (.iconst 0, 1) := fdd_d (by decide +kernel)
set_option maxRecDepth 100000 in
theorem xd_3ca2b426 : decode (ia_code 178) 46 = .ok (.istore 7, 2) := fdd_d (by decide +kernel)
set_option maxRecDepth 100000 in
theorem xd_9cf85222 : decode (ia_code 178) 97 = .ok (.iload 4, 2) := fdd_d (by decide +kernel)
set_option maxRecDepth 100000 in
theorem xd_d2d34b1a : decode (ia_code 178) 99 = .ok (.ifCond .le 21, 3) := fdd_d (by decide +kernel)
set_option maxRecDepth 100000 in
theorem xd_7d41d061 : decode (ia_code 178) 120 = .ok (.iload 4, 2) := fdd_d (by decide +kernel)
set_option maxRecDepth 100000 in
theorem xd_d8f66fb9 : decode (ia_code 178) 122 = .ok (.ireturn, 1) := fdd_d (by decide +kernel)
set_option maxRecDepth 100000 in
theorem xr_5427306d : ia_ret 178 = some .int := by decide +kernel
set_option maxRecDepth 100000 in
theorem xd_0b4dcdc6 : decode (ia_code 178) 102 = .ok (.aload_n 0, 1) := fdd_d (by decide +kernel)
set_option maxRecDepth 100000 in
theorem xd_156fb2b2 : decode (ia_code 178) 103 = .ok (.iload 5, 2) := fdd_d (by decide +kernel)
set_option maxRecDepth 100000 in
theorem xd_bf734621 : decode (ia_code 178) 105 = .ok (.putfield 9, 3) := fdd_d (by decide +kernel)
set_option maxRecDepth 100000 in
theorem xf_513e9191 : wk_pf 178 9 128 0 0 = true := by decide +kernel
set_option maxRecDepth 100000 in
theorem xd_e6625d09 : decode (ia_code 178) 108 = .ok (.aload_n 0, 1) := fdd_d (by decide +kernel)
set_option maxRecDepth 100000 in
theorem xd_7d11b7dd : decode (ia_code 178) 109 = .ok (.aload_n 0, 1) := fdd_d (by decide +kernel)
set_option maxRecDepth 100000 in
theorem xd_5a9e52b8 : decode (ia_code 178) 110 = .ok (.aload_n 1, 1) := fdd_d (by decide +kernel)
set_option maxRecDepth 100000 in
theorem xd_622bcd67 : decode (ia_code 178) 111 = .ok (.getfield 28, 3) := fdd_d (by decide +kernel)
set_option maxRecDepth 100000 in
theorem xl_f30ae1f6 : ia_pl (ia_cls 178) 62 = some (1, 180, 0, 0, 1112) := by decide +kernel
set_option maxRecDepth 100000 in
theorem xn_352d63bc : ia_na 180 = 2 := by decide +kernel
set_option maxRecDepth 100000 in
theorem xc_8eb843e5 : ia_mc 180 = 0 ∧ ia_ms 180 = 0 := ⟨by decide +kernel, by decide +kernel⟩
set_option maxRecDepth 100000 in
theorem xv_ebf7c92c : cm_rcv 180 [.inr (.inr (some 128))] = true := by decide +kernel
set_option maxRecDepth 100000 in
theorem xd_ab72e774 : decode (ia_code 178) 114 = .ok (.invokevirtual 62, 3) := fdd_d (by decide +kernel)
set_option maxRecDepth 100000 in
theorem xd_ce25bbe7 : decode (ia_code 178) 117 = .ok (.putfield 15, 3) := fdd_d (by decide +kernel)
set_option maxRecDepth 100000 in
theorem xf_0b8b5458 : wk_pf 178 15 128 1 0 = true := by decide +kernel
/-! ## the class's ate, exactly (wip/p22/gen_atc.py) -/
theorem at_maxr {C : Nat → List cm_V → cm_W → cm_O → Prop} {y pc : Nat} {lv : cm_L} {st : List cm_V} {w : cm_W} {Q : cm_O → Prop} {i a1 b1 c1 e1 : Nat} {x z : Int32} (hp : ia_pl (ia_cls y) i = some (17, a1, b1, c1, e1)) (hz : Nat.ble (ia_sz (cm_es st)) 8 = true) (hd : decode (ia_code y) pc = .ok (.invokestatic i, 3)) (k : cm_X C y (pc + 3) lv (.inl (if x < z then z else x) :: st) w Q) : cm_X C y pc lv (.inl z :: .inl x :: st) w Q := by
  refine cm_X_do (q := (pc + 3, lv, .inl (if x < z then z else x) :: st, w)) hd ?_ k
  show cm_inv y i pc lv (.inl z :: .inl x :: st) w = _
  unfold cm_inv
  rw [hp]
  exact cm_ifk hz rfl
theorem at_ldcw {C : Nat → List cm_V → cm_W → cm_O → Prop} {y pc : Nat} {lv : cm_L} {st : List cm_V} {w : cm_W} {Q : cm_O → Prop} {i v a b c : Nat} (hp : ia_pl (ia_cls y) i = some (8, v, a, b, c)) (hd : decode (ia_code y) pc = .ok (.ldc_w i, 3)) (k : cm_X C y (pc + 3) lv (.inl (ia_D v) :: st) w Q) : cm_X C y pc lv st w Q := by
  refine cm_X_do (q := (pc + 3, lv, .inl (ia_D v) :: st, w)) hd ?_ k
  show (match ia_pl (ia_cls y) i with
    | some (8, v, _, _, _) => cm_nx (Nat.add pc 3) lv (.inl (ia_D v) :: st) w
    | _ => none) = _
  rw [hp]
  rfl
theorem at_bcC {w : cm_W} {v : Int32} : cm_C 1 152 [.inl v] w (some (.inl (at_bc v)), w) := by
  refine wk_exact (d := 0) (by rw [xm_16c7803c]; exact Nat.le_of_ble_eq_true rfl) ?_
  rw [show cm_ent 152 [.inl v] = [some (.inl v)] from by unfold cm_ent; rw [xm_16c7803c]; rfl]
  refine wk_iload_n xd_787f078c rfl ?_
  refine wk_iload_n xd_e30ced58 rfl ?_
  refine wk_iconst xd_95c386af ?_
  refine wk_iushr xd_1c5f2be5 ?_
  refine at_ldcw xl_d5df55c4 xd_34313181 ?_
  refine wk_iand xd_bcdc5e72 ?_
  refine wk_isub xd_5cb37005 ?_
  refine wk_istore_n xd_2476fff5 (by rw [xm_16c7803c]; rfl) rfl ?_
  refine wk_iload_n xd_0544a01c rfl ?_
  refine at_ldcw xl_58dd350d xd_9585a786 ?_
  refine wk_iand xd_f86d4048 ?_
  refine wk_iload_n xd_9e6beb5b rfl ?_
  refine wk_iconst xd_b2fb4ef0 ?_
  refine wk_iushr xd_9029c802 ?_
  refine at_ldcw xl_58dd350d xd_0e4f0e74 ?_
  refine wk_iand xd_bfc1a706 ?_
  refine wk_iadd xd_f4dc5902 ?_
  refine wk_istore_n xd_eadf11f4 (by rw [xm_16c7803c]; rfl) rfl ?_
  refine wk_iload_n xd_5d06a8a7 rfl ?_
  refine wk_iload_n xd_c6754273 rfl ?_
  refine wk_iconst xd_4b5e826d ?_
  refine wk_iushr xd_3f8085c8 ?_
  refine wk_iadd xd_e6599c8d ?_
  refine at_ldcw xl_9082eca6 xd_f0426438 ?_
  refine wk_iand xd_82a5fa3c ?_
  refine wk_istore_n xd_4f5481fa (by rw [xm_16c7803c]; rfl) rfl ?_
  refine wk_iload_n xd_dc23cd80 rfl ?_
  refine wk_iload_n xd_47502754 rfl ?_
  refine wk_bipush xd_f583da82 ?_
  refine wk_iushr xd_19782840 ?_
  refine wk_iadd xd_dee9aa34 ?_
  refine wk_istore_n xd_d91ad47a (by rw [xm_16c7803c]; rfl) rfl ?_
  refine wk_iload_n xd_7614b1b0 rfl ?_
  refine wk_iload_n xd_00f1888d rfl ?_
  refine wk_bipush xd_c8d9b7d0 ?_
  refine wk_iushr xd_cf171eec ?_
  refine wk_iadd xd_62a88517 ?_
  refine wk_istore_n xd_e802e30d (by rw [xm_16c7803c]; rfl) rfl ?_
  refine wk_iload_n xd_edde1842 rfl ?_
  refine wk_bipush xd_f01398d7 ?_
  refine wk_iand xd_f5ff2c4d ?_
  exact wk_ireturn xd_1c6d2027 xr_8f1692e6 rfl rfl
def at_D (sp h p : Int32) (q : Int32 × Int32) : Int32 := if p = 0 then (if (Int32.ofInt 0) < (h - q.1) then (h - q.1) else (Int32.ofInt 0)) / sp else if q.1 - q.2 < h then (if (Int32.ofInt 0) < (h - q.1) then (h - q.1) else (Int32.ofInt 0)) / sp else Int32.ofInt (-1)
theorem cdb_lp {w : cm_W} {h p : Int32} {F S : Nat} (hF : (w.1 4 4).toInt = (F : Int)) (hF4 : F ≤ 4) (hS : (w.1 4 0).toInt = (S : Int)) (hS0 : 0 < S) (Q : cm_O → Prop) : ∀ (n j : Nat) (a m vj : Int32) (o6 : Option cm_V), n + j = F → vj.toInt = (j : Int) → Q (some (.inl (at_D (w.1 4 0) h p (hbh (fun j => w.1 11 j) p n j a m))), w) → cm_X (cm_C 1) 177 8 [some (.inr (.inr (some 4))), some (.inl h), some (.inl p), some (.inl a), some (.inl m), some (.inl vj), o6] [] w Q := by
  intro n
  induction n with
  | zero =>
    intro j a m vj o6 hj hvj hB
    have hB : Q (some (.inl (at_D (w.1 4 0) h p (a, m))), w) := hB
    have hQ0 : p = 0 → Q (some (.inl ((if (Int32.ofInt 0) < (h - a) then (h - a) else (Int32.ofInt 0)) / w.1 4 0)), w) := fun e => by
      unfold at_D at hB
      rw [if_pos e] at hB
      exact hB
    have hQ1 : ¬ p = 0 → a - m < h → Q (some (.inl ((if (Int32.ofInt 0) < (h - a) then (h - a) else (Int32.ofInt 0)) / w.1 4 0)), w) := fun e e2 => by
      unfold at_D at hB
      rw [if_neg e, if_pos e2] at hB
      exact hB
    have hQ2 : ¬ p = 0 → ¬ (a - m < h) → Q (some (.inl (Int32.ofInt (-1))), w) := fun e e2 => by
      unfold at_D at hB
      rw [if_neg e, if_neg e2] at hB
      exact hB
    refine wk_iload xd_bf69af38 rfl ?_
    refine wk_aload_n xd_53e1f94f rfl ?_
    refine wk_getI xf_501d09a7 xd_dea5c2b6 ?_
    refine wk_icmp xd_96de0251 (t := 63) rfl (fun h14_0 => ?_) (fun h14_0 => ?_)
    · have h14_0 := aw_ge_t (a := ((j : Int) : Int)) (b := ((F : Int) : Int)) hvj (show ((w.1 4 4)).toInt = ((F : Int) : Int) from hF) h14_0
      refine wk_iload_n xd_34df7708 rfl ?_
      refine wk_if xd_e1b482d4 (t := 77) rfl (fun h64_1 => ?_) (fun h64_1 => ?_)
      · have h64_1 := aw_eq_t (a := ((p).toInt : Int)) (b := (0 : Int)) rfl hb_z h64_1
        have hz : p = 0 := Int32.toInt_inj.mp (by have e9 := hb_z; omega)
        have hq := hQ0 hz
        refine wk_aload_n xd_956533b1 rfl ?_
        refine wk_getI xf_ccf60d74 xd_46323b12 ?_
        refine wk_if xd_c5e8aced (t := 99) rfl (fun h81_2 => ?_) (fun h81_2 => ?_)
        · have h81_2 := aw_le_t (a := ((S : Int) : Int)) (b := (0 : Int)) (show ((w.1 4 0)).toInt = ((S : Int) : Int) from hS) hb_z h81_2
          exfalso
          omega
        · have h81_2 := aw_le_f (a := ((S : Int) : Int)) (b := (0 : Int)) (show ((w.1 4 0)).toInt = ((S : Int) : Int) from hS) hb_z h81_2
          refine wk_iconst xd_6d307b29 ?_
          refine wk_iload_n xd_fc85114c rfl ?_
          refine wk_iload_n xd_f0a07b11 rfl ?_
          refine wk_isub xd_7ca7aec1 ?_
          refine at_maxr xl_5e7926f0 rfl xd_a2d7542a ?_
          refine wk_aload_n xd_1a9f2f25 rfl ?_
          refine wk_getI xf_ccf60d74 xd_90a87ef5 ?_
          refine wk_idiv xd_ed9c14f8 (fun e9 => by have e8 := (show ((w.1 4 0)).toInt = ((S : Int) : Int) from hS); rw [e9] at e8; have e7 := hb_z; omega) ?_
          refine wk_goto xd_5872e640 (t := 100) rfl ?_
          exact wk_ireturn xd_9f88f1de xr_7357e558 rfl hq
      · have h64_1 := aw_eq_f (a := ((p).toInt : Int)) (b := (0 : Int)) rfl hb_z h64_1
        have hz : ¬ p = 0 := fun e9 => by have e8 := hb_z; rw [e9] at h64_1; omega
        refine wk_iload_n xd_09e3ff2b rfl ?_
        refine wk_iload xd_ee2caa53 rfl ?_
        refine wk_isub xd_de16326b ?_
        refine wk_iload_n xd_1fccbb16 rfl ?_
        refine wk_icmp xd_32d6b871 (t := 77) rfl (fun h72_3 => ?_) (fun h72_3 => ?_)
        · have h72_3 := aw_lt_t (a := ((a - m).toInt : Int)) (b := ((h).toInt : Int)) rfl rfl h72_3
          have hq := hQ1 hz (by rw [Int32.lt_iff_toInt_lt]; omega)
          refine wk_aload_n xd_956533b1 rfl ?_
          refine wk_getI xf_ccf60d74 xd_46323b12 ?_
          refine wk_if xd_c5e8aced (t := 99) rfl (fun h81_4 => ?_) (fun h81_4 => ?_)
          · have h81_4 := aw_le_t (a := ((S : Int) : Int)) (b := (0 : Int)) (show ((w.1 4 0)).toInt = ((S : Int) : Int) from hS) hb_z h81_4
            exfalso
            omega
          · have h81_4 := aw_le_f (a := ((S : Int) : Int)) (b := (0 : Int)) (show ((w.1 4 0)).toInt = ((S : Int) : Int) from hS) hb_z h81_4
            refine wk_iconst xd_6d307b29 ?_
            refine wk_iload_n xd_fc85114c rfl ?_
            refine wk_iload_n xd_f0a07b11 rfl ?_
            refine wk_isub xd_7ca7aec1 ?_
            refine at_maxr xl_5e7926f0 rfl xd_a2d7542a ?_
            refine wk_aload_n xd_1a9f2f25 rfl ?_
            refine wk_getI xf_ccf60d74 xd_90a87ef5 ?_
            refine wk_idiv xd_ed9c14f8 (fun e9 => by have e8 := (show ((w.1 4 0)).toInt = ((S : Int) : Int) from hS); rw [e9] at e8; have e7 := hb_z; omega) ?_
            refine wk_goto xd_5872e640 (t := 100) rfl ?_
            exact wk_ireturn xd_9f88f1de xr_7357e558 rfl hq
        · have h72_3 := aw_lt_f (a := ((a - m).toInt : Int)) (b := ((h).toInt : Int)) rfl rfl h72_3
          refine wk_iconst xd_10e1f74e ?_
          exact wk_ireturn xd_6bb87c86 xr_7357e558 rfl (hQ2 hz (by intro e9; rw [Int32.lt_iff_toInt_lt] at e9; omega))
    · have h14_0 := aw_ge_f (a := ((j : Int) : Int)) (b := ((F : Int) : Int)) hvj (show ((w.1 4 4)).toInt = ((F : Int) : Int) from hF) h14_0
      exfalso
      omega
  | succ n ih =>
    intro j a m vj o6 hj hvj hB
    refine wk_iload xd_bf69af38 rfl ?_
    refine wk_aload_n xd_53e1f94f rfl ?_
    refine wk_getI xf_501d09a7 xd_dea5c2b6 ?_
    refine wk_icmp xd_96de0251 (t := 63) rfl (fun h14_5 => ?_) (fun h14_5 => ?_)
    · have h14_5 := aw_ge_t (a := ((j : Int) : Int)) (b := ((F : Int) : Int)) hvj (show ((w.1 4 4)).toInt = ((F : Int) : Int) from hF) h14_5
      exfalso
      omega
    · have h14_5 := aw_ge_f (a := ((j : Int) : Int)) (b := ((F : Int) : Int)) hvj (show ((w.1 4 4)).toInt = ((F : Int) : Int) from hF) h14_5
      refine wk_iload_n xd_059be1ec rfl ?_
      refine wk_iload xd_b695bda3 rfl ?_
      refine wk_call (kd := 1) (i := 33) xd_161903f1 rfl (wk_cal (as := [.inl p, .inl vj]) (t := []) xl_54f5b421 rfl xn_728d196c xc_bffd0008 rfl rfl rfl rfl) (jpo_ok w p hvj (by omega)) ?_
      refine wk_istore xd_2a6b4eb6 (by rw [xm_7a8c0b72]; rfl) rfl ?_
      refine wk_iload xd_609ce460 rfl ?_
      refine wk_if xd_0acd0932 (t := 57) rfl (fun h27_6 => ?_) (fun h27_6 => ?_)
      · have h27_6 := aw_le_t (a := ((hu_n p j).toInt : Int)) (b := (0 : Int)) rfl hb_z h27_6
        have hu0 : (hu_n p j) = 0 := Int32.toInt_inj.mp (by have e8 := hu_n_in p j; have e9 := hb_z; omega)
        have hb := hB
        rw [show hbh (fun j => w.1 11 j) p (n + 1) j a m = hbh (fun j => w.1 11 j) p n (j + 1) (a + (hu_n p j) * w.1 11 j) (if 0 < (hu_n p j) then (if w.1 11 j < m then m else w.1 11 j) else m) from rfl, hu0, Int32.zero_mul, Int32.add_zero, if_neg (by decide)] at hb
        refine aw_iinc (a := ((j : Int) : Int)) (b := (1 : Int)) (e := ((j : Int) + 1 : Int)) xd_057fcb3f (by rw [xm_7a8c0b72]; rfl) rfl rfl hvj (show ((Int32.ofInt 1)).toInt = 1 from by decide) (by omega) (by omega) (by omega) (fun v8_ p8_ => ?_)
        refine wk_goto xd_2174aec3 (t := 8) rfl ?_
        refine ih (j + 1) a m _ _ (by omega) (by omega) ?_
        exact hb
      · have h27_6 := aw_le_f (a := ((hu_n p j).toInt : Int)) (b := (0 : Int)) rfl hb_z h27_6
        have hb := hB
        rw [show hbh (fun j => w.1 11 j) p (n + 1) j a m = hbh (fun j => w.1 11 j) p n (j + 1) (a + (hu_n p j) * w.1 11 j) (if 0 < (hu_n p j) then (if w.1 11 j < m then m else w.1 11 j) else m) from rfl, if_pos (show (0 : Int32) < (hu_n p j) from by rw [Int32.lt_iff_toInt_lt]; have e9 := hb_z; omega), ← at_max] at hb
        refine wk_iload_n xd_97799cfd rfl ?_
        refine wk_iload xd_654d841b rfl ?_
        refine wk_aload_n xd_fc3f0c7d rfl ?_
        refine wk_getR xf_b499f865 xd_dcd51758 ?_
        refine wk_iload xd_d4d0fb0d rfl ?_
        refine aw_iaload (i := j) xf_8aa6ba27 hvj (by omega) (by omega) xd_52af2b55 ?_
        refine wk_imul xd_f591ed30 ?_
        refine wk_iadd xd_2599ab5a ?_
        refine wk_istore_n xd_86ecd984 (by rw [xm_7a8c0b72]; rfl) rfl ?_
        refine wk_iload xd_9e90e846 rfl ?_
        refine wk_aload_n xd_20ed4970 rfl ?_
        refine wk_getR xf_b499f865 xd_94704a23 ?_
        refine wk_iload xd_62c6c9fd rfl ?_
        refine aw_iaload (i := j) xf_8aa6ba27 hvj (by omega) (by omega) xd_3949f821 ?_
        refine at_maxr xl_5e7926f0 rfl xd_3f9152e9 ?_
        refine wk_istore xd_54e3dff8 (by rw [xm_7a8c0b72]; rfl) rfl ?_
        refine aw_iinc (a := ((j : Int) : Int)) (b := (1 : Int)) (e := ((j : Int) + 1 : Int)) xd_057fcb3f (by rw [xm_7a8c0b72]; rfl) rfl rfl hvj (show ((Int32.ofInt 1)).toInt = 1 from by decide) (by omega) (by omega) (by omega) (fun v9_ p9_ => ?_)
        refine wk_goto xd_2174aec3 (t := 8) rfl ?_
        refine ih (j + 1) (a + ((hu_n p j) * (w.1 11 j))) (if m < (w.1 11 j) then (w.1 11 j) else m) _ _ (by omega) (by omega) ?_
        exact hb
theorem cdb_ok {w : cm_W} {h p : Int32} {F S : Nat} (hF : (w.1 4 4).toInt = (F : Int)) (hF4 : F ≤ 4) (hS : (w.1 4 0).toInt = (S : Int)) (hS0 : 0 < S) : cm_C 2 177 [.inr (.inr (some 4)), .inl h, .inl p] w (some (.inl (at_D (w.1 4 0) h p (hbh (fun j => w.1 11 j) p F 0 (Int32.ofInt 0) (Int32.ofInt 0)))), w) := by
  refine wk_exact (d := 1) (by rw [xm_7a8c0b72]; exact Nat.le_of_ble_eq_true rfl) ?_
  rw [show cm_ent 177 [.inr (.inr (some 4)), .inl h, .inl p] = [some (.inr (.inr (some 4))), some (.inl h), some (.inl p), none, none, none, none] from by unfold cm_ent; rw [xm_7a8c0b72]; rfl]
  refine wk_iconst xd_cd8ff705 ?_
  refine wk_istore_n xd_bd7d33a5 (by rw [xm_7a8c0b72]; rfl) rfl ?_
  refine wk_iconst xd_e3df3e85 ?_
  refine wk_istore xd_419a9235 (by rw [xm_7a8c0b72]; rfl) rfl ?_
  refine wk_iconst xd_860600c5 ?_
  refine wk_istore xd_37734c45 (by rw [xm_7a8c0b72]; rfl) rfl ?_
  exact cdb_lp hF hF4 hS hS0 _ F 0 _ _ _ _ (by omega) (show ((Int32.ofInt 0)).toInt = 0 from by decide) rfl
/-- he has that date behind it -/
theorem at_DP {st : Nat → Int32} {F : Nat} {sp h d p : Int32} (hd : 0 ≤ d.toInt) (hh : 0 ≤ h.toInt) : at_D sp h p (hbh st p F 0 (Int32.ofInt 0) (Int32.ofInt 0)) = d ↔ at_P st F sp h d p = true := by
  have n1 : (Int32.ofInt (-1)).toInt = -1 := by decide
  have z1 : (Int32.ofInt 0).toInt = 0 := by decide
  have z2 := hb_z
  have mx : ∀ v : Int32, (if (Int32.ofInt 0) < v then v else (Int32.ofInt 0)) = if v < Int32.ofInt 0 then Int32.ofInt 0 else v := fun v => at_max (Int32.ofInt 0) v
  have nn : ∀ v : Int32, ¬ (if v < Int32.ofInt 0 then Int32.ofInt 0 else v) < 0 := fun v e => by
    rw [Int32.lt_iff_toInt_lt] at e
    by_cases c : v < Int32.ofInt 0
    · rw [if_pos c] at e
      omega
    · rw [if_neg c] at e
      rw [Int32.lt_iff_toInt_lt] at c
      omega
  unfold at_D at_P at_H
  by_cases c : p = 0
  · rw [if_pos c, if_pos c, c, at_hb0, mx]
    have e1 : h - Int32.ofInt 0 = h := Int32.sub_zero h
    have e2 : ¬ h < Int32.ofInt 0 := fun e => by rw [Int32.lt_iff_toInt_lt] at e; omega
    have e3 : ¬ h < (0 : Int32) := fun e => by rw [Int32.lt_iff_toInt_lt] at e; omega
    show (if h - Int32.ofInt 0 < Int32.ofInt 0 then Int32.ofInt 0 else h - Int32.ofInt 0) / sp = d ↔ _
    rw [e1, if_neg e2, decide_eq_false e3]
    exact ⟨fun e => decide_eq_true e, fun e => of_decide_eq_true e⟩
  · rw [if_neg c, if_neg c]
    unfold hbhR
    by_cases c2 : (hbh st p F 0 (Int32.ofInt 0) (Int32.ofInt 0)).1 - (hbh st p F 0 (Int32.ofInt 0) (Int32.ofInt 0)).2 < h
    · rw [if_pos c2, if_pos c2, mx, decide_eq_false (nn _)]
      exact ⟨fun e => decide_eq_true e, fun e => of_decide_eq_true e⟩
    · rw [if_neg c2, if_neg c2, decide_eq_true (show Int32.ofInt (-1) < 0 from by decide)]
      exact ⟨fun e => by rw [← e] at hd; omega, fun e => by cases e⟩
theorem cnp_lp {p vF : Int32} {F : Nat} (hvF : vF.toInt = (F : Int)) (hF4 : F ≤ 4) (Q : cm_O → Prop) : ∀ (n j : Nat) (b vj : Int32) (o5 : Option cm_V) (w : cm_W), n + j = F → vj.toInt = (j : Int) → (∀ w' : cm_W, (∀ i, w'.1 129 i = if j ≤ i ∧ i < F then w.1 129 i ||| (Int32.ofInt 1 <<< (hu_n p i &&& 31)) else w.1 129 i) → (∀ k i, k ≠ 129 → w'.1 k i = w.1 k i) → w'.2 = w.2 → Q (some (.inl (at_mk p n j b)), w')) → cm_X (cm_C 1) 181 5 [some (.inr (.inr (some 128))), some (.inl vF), some (.inl p), some (.inl b), some (.inl vj), o5] [] w Q := by
  intro n
  induction n with
  | zero =>
    intro j b vj o5 w hj hvj hQ
    refine wk_iload xd_78be3594 rfl ?_
    refine wk_iload_n xd_0cbefde4 rfl ?_
    refine wk_icmp xd_f9da21cb (t := 51) rfl (fun h8_0 => ?_) (fun h8_0 => ?_)
    · have h8_0 := aw_ge_t (a := ((j : Int) : Int)) (b := ((F : Int) : Int)) hvj hvF h8_0
      refine wk_iload_n xd_09c86205 rfl ?_
      exact wk_ireturn xd_b1208b81 xr_85268e73 rfl (hQ w (fun i => by rw [if_neg (by omega)]) (fun _ _ _ => rfl) rfl)
    · have h8_0 := aw_ge_f (a := ((j : Int) : Int)) (b := ((F : Int) : Int)) hvj hvF h8_0
      exfalso
      omega
  | succ n ih =>
    intro j b vj o5 w hj hvj hQ
    refine wk_iload xd_78be3594 rfl ?_
    refine wk_iload_n xd_0cbefde4 rfl ?_
    refine wk_icmp xd_f9da21cb (t := 51) rfl (fun h8_1 => ?_) (fun h8_1 => ?_)
    · have h8_1 := aw_ge_t (a := ((j : Int) : Int)) (b := ((F : Int) : Int)) hvj hvF h8_1
      exfalso
      omega
    · have h8_1 := aw_ge_f (a := ((j : Int) : Int)) (b := ((F : Int) : Int)) hvj hvF h8_1
      refine wk_iload_n xd_5daed5ea rfl ?_
      refine wk_iload xd_acf2a624 rfl ?_
      refine wk_call (kd := 1) (i := 33) xd_b3151e61 rfl (wk_cal (as := [.inl p, .inl vj]) (t := []) xl_e236ee78 rfl xn_728d196c xc_bffd0008 rfl rfl rfl rfl) (jpo_ok w p hvj (by omega)) ?_
      refine wk_istore xd_6806d3e6 (by rw [xm_739d7c91]; rfl) rfl ?_
      refine wk_aload_n xd_7dd416c1 rfl ?_
      refine wk_getR xf_04597d8b xd_13d8aa4e ?_
      refine wk_iload xd_0a5088fa rfl ?_
      refine wk_dup2 xd_909c21ad ?_
      refine aw_iaload (i := j) xf_d002a5c0 hvj (by omega) (by omega) xd_e38ce5a5 ?_
      refine wk_iconst xd_ab8e22ab ?_
      refine wk_iload xd_69dc2adf rfl ?_
      refine aw_ishl xd_33f711a5 ?_
      refine aw_ior xd_f03facfd ?_
      refine aw_iastore (i := j) xf_d002a5c0 hvj (by omega) (by omega) xd_64ec2280 ?_
      refine wk_iload xd_2018c58a rfl ?_
      refine wk_if xd_e6793781 (t := 45) rfl (fun h35_2 => ?_) (fun h35_2 => ?_)
      · have h35_2 := aw_le_t (a := ((hu_n p j).toInt : Int)) (b := (0 : Int)) rfl hb_z h35_2
        have hb := hQ
        rw [show at_mk p (n + 1) j b = at_mk p n (j + 1) (if 0 < hu_n p j then b ||| (Int32.ofInt 1 <<< (Int32.ofNat j &&& 31)) else b) from rfl, if_neg (show ¬ (0 : Int32) < hu_n p j from by rw [Int32.lt_iff_toInt_lt]; have e9 := hb_z; omega)] at hb
        refine aw_iinc (a := ((j : Int) : Int)) (b := (1 : Int)) (e := ((j : Int) + 1 : Int)) xd_39a2ae62 (by rw [xm_739d7c91]; rfl) rfl rfl hvj (show ((Int32.ofInt 1)).toInt = 1 from by decide) (by omega) (by omega) (by omega) (fun v4_ p4_ => ?_)
        refine wk_goto xd_5732ae60 (t := 5) rfl ?_
        refine ih (j + 1) b _ _ _ (by omega) (by omega) (fun w' h1 h2 h3 => ?_)
        have e1 : w'.1 129 = fun i => if j ≤ i ∧ i < F then w.1 129 i ||| (Int32.ofInt 1 <<< (hu_n p i &&& 31)) else w.1 129 i := funext fun i => by
          rw [h1 i]
          by_cases c : i = j
          · rw [c, if_neg (by omega), if_pos (by omega)]
            exact hs_u1_self
          · rw [show (cm_u1 w 129 j ((w.1 129 j) ||| ((Int32.ofInt 1) <<< ((hu_n p j) &&& 31)))).1 129 i = w.1 129 i from hs_u1_ne (by omega)]
            by_cases c2 : j + 1 ≤ i ∧ i < F
            · rw [if_pos c2, if_pos (by omega)]
            · rw [if_neg c2, if_neg (by omega)]
        refine hb w' (fun i => by rw [e1]) (fun k i hk => (h2 k i hk).trans (hs_u1_ne (by omega))) (h3.trans rfl)
      · have h35_2 := aw_le_f (a := ((hu_n p j).toInt : Int)) (b := (0 : Int)) rfl hb_z h35_2
        have hb := hQ
        rw [show at_mk p (n + 1) j b = at_mk p n (j + 1) (if 0 < hu_n p j then b ||| (Int32.ofInt 1 <<< (Int32.ofNat j &&& 31)) else b) from rfl, if_pos (show (0 : Int32) < hu_n p j from by rw [Int32.lt_iff_toInt_lt]; have e9 := hb_z; omega), ← hk_of hvj (by omega)] at hb
        refine wk_iload_n xd_223f99a7 rfl ?_
        refine wk_iconst xd_fb4fb4ff ?_
        refine wk_iload xd_03bf5099 rfl ?_
        refine aw_ishl xd_7c1df16d ?_
        refine aw_ior xd_c52d365e ?_
        refine wk_istore_n xd_6fd74985 (by rw [xm_739d7c91]; rfl) rfl ?_
        refine aw_iinc (a := ((j : Int) : Int)) (b := (1 : Int)) (e := ((j : Int) + 1 : Int)) xd_39a2ae62 (by rw [xm_739d7c91]; rfl) rfl rfl hvj (show ((Int32.ofInt 1)).toInt = 1 from by decide) (by omega) (by omega) (by omega) (fun v5_ p5_ => ?_)
        refine wk_goto xd_5732ae60 (t := 5) rfl ?_
        refine ih (j + 1) (b ||| ((Int32.ofInt 1) <<< (vj &&& 31))) _ _ _ (by omega) (by omega) (fun w' h1 h2 h3 => ?_)
        have e1 : w'.1 129 = fun i => if j ≤ i ∧ i < F then w.1 129 i ||| (Int32.ofInt 1 <<< (hu_n p i &&& 31)) else w.1 129 i := funext fun i => by
          rw [h1 i]
          by_cases c : i = j
          · rw [c, if_neg (by omega), if_pos (by omega)]
            exact hs_u1_self
          · rw [show (cm_u1 w 129 j ((w.1 129 j) ||| ((Int32.ofInt 1) <<< ((hu_n p j) &&& 31)))).1 129 i = w.1 129 i from hs_u1_ne (by omega)]
            by_cases c2 : j + 1 ≤ i ∧ i < F
            · rw [if_pos c2, if_pos (by omega)]
            · rw [if_neg c2, if_neg (by omega)]
        refine hb w' (fun i => by rw [e1]) (fun k i hk => (h2 k i hk).trans (hs_u1_ne (by omega))) (h3.trans rfl)
theorem cnp_ok {w : cm_W} {p vF : Int32} {F : Nat} (hvF : vF.toInt = (F : Int)) (hF4 : F ≤ 4) : ∃ w', cm_C 2 181 [.inr (.inr (some 128)), .inl vF, .inl p] w (some (.inl (at_mk p F 0 0)), w') ∧ (∀ i, w'.1 129 i = at_sn F (w.1 129) p i) ∧ (∀ k i, k ≠ 129 → w'.1 k i = w.1 k i) ∧ w'.2 = w.2 := by
  have h : ∃ o, cm_C (1 + 1) 181 [.inr (.inr (some 128)), .inl vF, .inl p] w o ∧ (fun o : cm_O => ∃ w', o = (some (.inl (at_mk p F 0 0)), w') ∧ (∀ i, w'.1 129 i = at_sn F (w.1 129) p i) ∧ (∀ k i, k ≠ 129 → w'.1 k i = w.1 k i) ∧ w'.2 = w.2) o := by
    refine wk_entry (by rw [xm_739d7c91]; exact Nat.le_of_ble_eq_true rfl) ?_
    rw [show cm_ent 181 [.inr (.inr (some 128)), .inl vF, .inl p] = [some (.inr (.inr (some 128))), some (.inl vF), some (.inl p), none, none, none] from by unfold cm_ent; rw [xm_739d7c91]; rfl]
    refine wk_iconst xd_2bbecd39 ?_
    refine wk_istore_n xd_088275d9 (by rw [xm_739d7c91]; rfl) rfl ?_
    refine wk_iconst xd_05ee04b9 ?_
    refine wk_istore xd_a7aba809 (by rw [xm_739d7c91]; rfl) rfl ?_
    refine cnp_lp hvF hF4 _ F 0 _ _ _ w (by omega) (show ((Int32.ofInt 0)).toInt = 0 from by decide) (fun w' h1 h2 h3 => ⟨w', rfl, fun i => ?_, h2, h3⟩)
    rw [h1 i]
    unfold at_sn
    by_cases c : i < F
    · rw [if_pos c, if_pos (by omega)]
    · rw [if_neg c, if_neg (by omega)]
  obtain ⟨o, hC, w', rfl, a⟩ := h
  exact ⟨w', hC, a⟩
theorem cmu_lp {w : cm_W} {vF : Int32} {F : Nat} (hvF : vF.toInt = (F : Int)) (hF4 : F ≤ 4) (Q : cm_O → Prop) : ∀ (n j : Nat) (best most vj : Int32) (o5 : Option cm_V), n + j = F → vj.toInt = (j : Int) → Q (some (.inl (at_mu (w.1 129) n j best most)), w) → cm_X (cm_C 1) 180 7 [some (.inr (.inr (some 128))), some (.inl vF), some (.inl best), some (.inl most), some (.inl vj), o5] [] w Q := by
  intro n
  induction n with
  | zero =>
    intro j best most vj o5 hj hvj hQ
    refine wk_iload xd_1d5f51ce rfl ?_
    refine wk_iload_n xd_06d06a2f rfl ?_
    refine wk_icmp xd_9311bfa9 (t := 43) rfl (fun h10_0 => ?_) (fun h10_0 => ?_)
    · have h10_0 := aw_ge_t (a := ((j : Int) : Int)) (b := ((F : Int) : Int)) hvj hvF h10_0
      refine wk_iload_n xd_3697e63a rfl ?_
      exact wk_ireturn xd_f5be7a89 xr_58b057f6 rfl hQ
    · have h10_0 := aw_ge_f (a := ((j : Int) : Int)) (b := ((F : Int) : Int)) hvj hvF h10_0
      exfalso
      omega
  | succ n ih =>
    intro j best most vj o5 hj hvj hQ
    refine wk_iload xd_1d5f51ce rfl ?_
    refine wk_iload_n xd_06d06a2f rfl ?_
    refine wk_icmp xd_9311bfa9 (t := 43) rfl (fun h10_1 => ?_) (fun h10_1 => ?_)
    · have h10_1 := aw_ge_t (a := ((j : Int) : Int)) (b := ((F : Int) : Int)) hvj hvF h10_1
      exfalso
      omega
    · have h10_1 := aw_ge_f (a := ((j : Int) : Int)) (b := ((F : Int) : Int)) hvj hvF h10_1
      refine wk_aload_n xd_fe779d4f rfl ?_
      refine wk_getR xf_6ad566ca xd_7935d469 ?_
      refine wk_iload xd_845ab10f rfl ?_
      refine aw_iaload (i := j) xf_d002a5c0 hvj (by omega) (by omega) xd_65287240 ?_
      refine wk_call (kd := 1) (i := 65) xd_49a5ad48 rfl (wk_cal (as := [.inl (w.1 129 j)]) (t := []) xl_d5e7fd84 rfl xn_6a7a72b8 xc_9f5e1774 rfl rfl rfl rfl) at_bcC ?_
      refine wk_istore xd_a55fdf4c (by rw [xm_4efd5521]; rfl) rfl ?_
      refine wk_iload xd_64863482 rfl ?_
      refine wk_iload_n xd_bb963c49 rfl ?_
      refine wk_icmp xd_5d41979d (t := 37) rfl (fun h28_2 => ?_) (fun h28_2 => ?_)
      · have h28_2 := aw_le_t (a := ((at_bc (w.1 129 j)).toInt : Int)) (b := ((most).toInt : Int)) rfl rfl h28_2
        have hb := hQ
        rw [show at_mu (w.1 129) (n + 1) j best most = if most < at_bc (w.1 129 j) then at_mu (w.1 129) n (j + 1) (Int32.ofNat j) (at_bc (w.1 129 j)) else at_mu (w.1 129) n (j + 1) best most from rfl, if_neg (show ¬ most < at_bc (w.1 129 j) from by rw [Int32.lt_iff_toInt_lt]; omega)] at hb
        refine aw_iinc (a := ((j : Int) : Int)) (b := (1 : Int)) (e := ((j : Int) + 1 : Int)) xd_865659db (by rw [xm_4efd5521]; rfl) rfl rfl hvj (show ((Int32.ofInt 1)).toInt = 1 from by decide) (by omega) (by omega) (by omega) (fun v4_ p4_ => ?_)
        refine wk_goto xd_412d514d (t := 7) rfl ?_
        refine ih (j + 1) _ _ _ _ (by omega) (by omega) ?_
        exact hb
      · have h28_2 := aw_le_f (a := ((at_bc (w.1 129 j)).toInt : Int)) (b := ((most).toInt : Int)) rfl rfl h28_2
        have hb := hQ
        rw [show at_mu (w.1 129) (n + 1) j best most = if most < at_bc (w.1 129 j) then at_mu (w.1 129) n (j + 1) (Int32.ofNat j) (at_bc (w.1 129 j)) else at_mu (w.1 129) n (j + 1) best most from rfl, if_pos (show most < at_bc (w.1 129 j) from by rw [Int32.lt_iff_toInt_lt]; omega), ← hk_of hvj (by omega)] at hb
        refine wk_iload xd_615754f9 rfl ?_
        refine wk_istore_n xd_912a7f47 (by rw [xm_4efd5521]; rfl) rfl ?_
        refine wk_iload xd_d114fa6c rfl ?_
        refine wk_istore_n xd_4469ad8f (by rw [xm_4efd5521]; rfl) rfl ?_
        refine aw_iinc (a := ((j : Int) : Int)) (b := (1 : Int)) (e := ((j : Int) + 1 : Int)) xd_865659db (by rw [xm_4efd5521]; rfl) rfl rfl hvj (show ((Int32.ofInt 1)).toInt = 1 from by decide) (by omega) (by omega) (by omega) (fun v5_ p5_ => ?_)
        refine wk_goto xd_412d514d (t := 7) rfl ?_
        refine ih (j + 1) _ _ _ _ (by omega) (by omega) ?_
        exact hb
theorem cmu_ok {w : cm_W} {vF : Int32} {F : Nat} (hvF : vF.toInt = (F : Int)) (hF4 : F ≤ 4) : cm_C 2 180 [.inr (.inr (some 128)), .inl vF] w (some (.inl (at_mu (w.1 129) F 0 (Int32.ofInt (-1)) (Int32.ofInt 0))), w) := by
  refine wk_exact (d := 1) (by rw [xm_4efd5521]; exact Nat.le_of_ble_eq_true rfl) ?_
  rw [show cm_ent 180 [.inr (.inr (some 128)), .inl vF] = [some (.inr (.inr (some 128))), some (.inl vF), none, none, none, none] from by unfold cm_ent; rw [xm_4efd5521]; rfl]
  refine wk_iconst xd_9d8cc8e8 ?_
  refine wk_istore_n xd_5b6e4728 (by rw [xm_4efd5521]; rfl) rfl ?_
  refine wk_iconst xd_a06594b7 ?_
  refine wk_istore_n xd_bf35a297 (by rw [xm_4efd5521]; rfl) rfl ?_
  refine wk_iconst xd_d294ce37 ?_
  refine wk_istore xd_70d16287 (by rw [xm_4efd5521]; rfl) rfl ?_
  exact cmu_lp hvF hF4 _ F 0 _ _ _ _ (by omega) (show ((Int32.ofInt 0)).toInt = 0 from by decide) rfl
theorem cgs_lp {w0 : cm_W} {h d : Int32} {F S : Nat} (hF : (w0.1 4 4).toInt = (F : Int)) (hF4 : F ≤ 4) (hS : (w0.1 4 0).toInt = (S : Int)) (hS0 : 0 < S) (hh : 0 ≤ h.toInt) (hd : 0 ≤ d.toInt) {N : Nat} {vN : Int32} (hvN : vN.toInt = (N : Int)) (hN : N ≤ 35) (Q : cm_O → Prop) (hk : ∀ (w : cm_W) (z4 z5 vk : Int32) (o8 : Option cm_V), z4.toInt = ((((List.range N).map (fun k => cm_pr ia_arA (Int32.ofNat k))).foldl (at_st F (at_P (fun j => w0.1 11 j) F (w0.1 4 0) h d)) (0, (fun _ => Int32.ofInt 0), at_i F)).1 : Int) ∧ z5 = (((List.range N).map (fun k => cm_pr ia_arA (Int32.ofNat k))).foldl (at_st F (at_P (fun j => w0.1 11 j) F (w0.1 4 0) h d)) (0, (fun _ => Int32.ofInt 0), at_i F)).2.2 ∧ (∀ i, i < 4 → w.1 129 i = (((List.range N).map (fun k => cm_pr ia_arA (Int32.ofNat k))).foldl (at_st F (at_P (fun j => w0.1 11 j) F (w0.1 4 0) h d)) (0, (fun _ => Int32.ofInt 0), at_i F)).2.1 i) ∧ (∀ k i, k ≠ 129 → w.1 k i = w0.1 k i) ∧ w.2 = w0.2 → cm_X (cm_C 3) 178 97 [some (.inr (.inr (some 128))), some (.inr (.inr (some 4))), some (.inl h), some (.inl d), some (.inl z4), some (.inl z5), some (.inl vN), some (.inl vk), o8] [] w Q) : ∀ (f k : Nat) (z4 z5 vk : Int32) (o8 : Option cm_V) (w : cm_W), f + k = N → vk.toInt = (k : Int) → z4.toInt = ((((List.range k).map (fun k => cm_pr ia_arA (Int32.ofNat k))).foldl (at_st F (at_P (fun j => w0.1 11 j) F (w0.1 4 0) h d)) (0, (fun _ => Int32.ofInt 0), at_i F)).1 : Int) ∧ z5 = (((List.range k).map (fun k => cm_pr ia_arA (Int32.ofNat k))).foldl (at_st F (at_P (fun j => w0.1 11 j) F (w0.1 4 0) h d)) (0, (fun _ => Int32.ofInt 0), at_i F)).2.2 ∧ (∀ i, i < 4 → w.1 129 i = (((List.range k).map (fun k => cm_pr ia_arA (Int32.ofNat k))).foldl (at_st F (at_P (fun j => w0.1 11 j) F (w0.1 4 0) h d)) (0, (fun _ => Int32.ofInt 0), at_i F)).2.1 i) ∧ (∀ k i, k ≠ 129 → w.1 k i = w0.1 k i) ∧ w.2 = w0.2 → cm_X (cm_C 3) 178 48 [some (.inr (.inr (some 128))), some (.inr (.inr (some 4))), some (.inl h), some (.inl d), some (.inl z4), some (.inl z5), some (.inl vN), some (.inl vk), o8] [] w Q := by
  intro f
  induction f with
  | zero =>
    intro k z4 z5 vk o8 w hfk hvk hI
    obtain ⟨hz4, hz5, hse, hfr, hf2⟩ := id hI
    obtain ⟨S0, hS0e⟩ : ∃ S0 : Nat, S0 = (((List.range k).map (fun k => cm_pr ia_arA (Int32.ofNat k))).foldl (at_st F (at_P (fun j => w0.1 11 j) F (w0.1 4 0) h d)) (0, (fun _ => Int32.ofInt 0), at_i F)).1 := ⟨_, rfl⟩
    rw [← hS0e] at hz4
    have hFw : (w.1 4 4).toInt = (F : Int) := by rw [hfr 4 4 (by omega)]; exact hF
    have hSw : (w.1 4 0).toInt = (S : Int) := by rw [hfr 4 0 (by omega)]; exact hS
    refine wk_iload xd_6587761c rfl ?_
    refine wk_iload xd_6a3d321a rfl ?_
    refine wk_icmp xd_5a7da50e (t := 97) rfl (fun h52_0 => ?_) (fun h52_0 => ?_)
    · have h52_0 := aw_ge_t (a := ((k : Int) : Int)) (b := ((N : Int) : Int)) hvk hvN h52_0
      exact hk w z4 z5 vk _ (by rw [show N = k from by omega]; exact hI)
    · have h52_0 := aw_ge_f (a := ((k : Int) : Int)) (b := ((N : Int) : Int)) hvk hvN h52_0
      exfalso
      omega
  | succ f ih =>
    intro k z4 z5 vk o8 w hfk hvk hI
    obtain ⟨hz4, hz5, hse, hfr, hf2⟩ := id hI
    obtain ⟨S0, hS0e⟩ : ∃ S0 : Nat, S0 = (((List.range k).map (fun k => cm_pr ia_arA (Int32.ofNat k))).foldl (at_st F (at_P (fun j => w0.1 11 j) F (w0.1 4 0) h d)) (0, (fun _ => Int32.ofInt 0), at_i F)).1 := ⟨_, rfl⟩
    rw [← hS0e] at hz4
    have hFw : (w.1 4 4).toInt = (F : Int) := by rw [hfr 4 4 (by omega)]; exact hF
    have hSw : (w.1 4 0).toInt = (S : Int) := by rw [hfr 4 0 (by omega)]; exact hS
    have hcnt : S0 ≤ k := by
      have e9 := at_cnt (F := F) (P := (at_P (fun j => w0.1 11 j) F (w0.1 4 0) h d)) ((List.range k).map (fun k => cm_pr ia_arA (Int32.ofNat k))) (0, (fun _ => Int32.ofInt 0), at_i F)
      rw [List.length_map, List.length_range] at e9
      rw [hS0e]
      omega
    refine wk_iload xd_6587761c rfl ?_
    refine wk_iload xd_6a3d321a rfl ?_
    refine wk_icmp xd_5a7da50e (t := 97) rfl (fun h52_1 => ?_) (fun h52_1 => ?_)
    · have h52_1 := aw_ge_t (a := ((k : Int) : Int)) (b := ((N : Int) : Int)) hvk hvN h52_1
      exfalso
      omega
    · have h52_1 := aw_ge_f (a := ((k : Int) : Int)) (b := ((N : Int) : Int)) hvk hvN h52_1
      refine wk_iload xd_da7e9c8f rfl ?_
      rw [hk_of hvk (by omega)]
      refine wk_call (kd := 1) (i := 52) xd_565c1ad9 rfl (wk_cal (as := [.inl (Int32.ofNat k)]) (t := []) xl_bfc13c36 rfl xn_d2327573 xc_fe717d23 rfl rfl rfl rfl) (cm_C_mono (by omega) (jat_ok w (Int32.ofNat k))) ?_
      refine wk_istore xd_2195aa9e (by rw [xm_1f64b1a4]; rfl) rfl ?_
      refine wk_aload_n xd_a258a46d rfl ?_
      refine wk_iload_n xd_2488e704 rfl ?_
      refine wk_iload xd_fe8c2580 rfl ?_
      have hCd := cdb_ok (w := w) (h := h) (p := (cm_pr ia_arA (Int32.ofNat k))) hFw hF4 hSw hS0
      refine wk_call (kd := 1) (i := 55) xd_c3da3af5 rfl (wk_cal (as := [.inr (.inr (some 4)), .inl h, .inl (cm_pr ia_arA (Int32.ofNat k))]) (t := []) xl_c9b3e5bc rfl xn_015c3def xc_5862be47 rfl rfl rfl rfl) (cm_C_mono (by omega) hCd) ?_
      refine wk_iload_n xd_f4c75e7b rfl ?_
      refine wk_icmp xd_10631efa (t := 91) rfl (fun h70_2 => ?_) (fun h70_2 => ?_)
      · have h70_2 := aw_ne_t (a := ((at_D (w.1 4 0) h (cm_pr ia_arA (Int32.ofNat k)) (hbh (fun j => w.1 11 j) (cm_pr ia_arA (Int32.ofNat k)) F 0 (Int32.ofInt 0) (Int32.ofInt 0))).toInt : Int)) (b := ((d).toInt : Int)) rfl rfl h70_2
        have hpw : at_D (w.1 4 0) h (cm_pr ia_arA (Int32.ofNat k)) (hbh (fun j => w.1 11 j) (cm_pr ia_arA (Int32.ofNat k)) F 0 (Int32.ofInt 0) (Int32.ofInt 0)) = d ↔ (at_P (fun j => w0.1 11 j) F (w0.1 4 0) h d) (cm_pr ia_arA (Int32.ofNat k)) = true := by
          rw [hfr 4 0 (by omega), show (fun j => w.1 11 j) = (fun j => w0.1 11 j) from funext fun j => hfr 11 j (by omega)]
          exact at_DP hd hh
        have hstep : (((List.range (k + 1)).map (fun k => cm_pr ia_arA (Int32.ofNat k))).foldl (at_st F (at_P (fun j => w0.1 11 j) F (w0.1 4 0) h d)) (0, (fun _ => Int32.ofInt 0), at_i F)) = at_st F (at_P (fun j => w0.1 11 j) F (w0.1 4 0) h d) (((List.range k).map (fun k => cm_pr ia_arA (Int32.ofNat k))).foldl (at_st F (at_P (fun j => w0.1 11 j) F (w0.1 4 0) h d)) (0, (fun _ => Int32.ofInt 0), at_i F)) (cm_pr ia_arA (Int32.ofNat k)) := by
          rw [List.range_succ, List.map_append, List.foldl_append]
          rfl
        have hno : ¬ (at_P (fun j => w0.1 11 j) F (w0.1 4 0) h d) (cm_pr ia_arA (Int32.ofNat k)) = true := fun e9 => h70_2 (by rw [hpw.mpr e9])
        have hstep := hstep.trans (at_st_n (F := F) (P := (at_P (fun j => w0.1 11 j) F (w0.1 4 0) h d)) (p := (cm_pr ia_arA (Int32.ofNat k))) hno)
        refine aw_iinc (a := ((k : Int) : Int)) (b := (1 : Int)) (e := ((k : Int) + 1 : Int)) xd_6d1e34b9 (by rw [xm_1f64b1a4]; rfl) rfl rfl (hk_to k (by omega)) (show ((Int32.ofInt 1)).toInt = 1 from by decide) (by omega) (by omega) (by omega) (fun v4_ p4_ => ?_)
        refine wk_goto xd_9e690d9a (t := 48) rfl ?_
        refine ih (k + 1) _ _ _ _ w (by omega) (by omega) (by rw [hstep]; exact hI)
      · have h70_2 := aw_ne_f (a := ((at_D (w.1 4 0) h (cm_pr ia_arA (Int32.ofNat k)) (hbh (fun j => w.1 11 j) (cm_pr ia_arA (Int32.ofNat k)) F 0 (Int32.ofInt 0) (Int32.ofInt 0))).toInt : Int)) (b := ((d).toInt : Int)) rfl rfl h70_2
        have hpw : at_D (w.1 4 0) h (cm_pr ia_arA (Int32.ofNat k)) (hbh (fun j => w.1 11 j) (cm_pr ia_arA (Int32.ofNat k)) F 0 (Int32.ofInt 0) (Int32.ofInt 0)) = d ↔ (at_P (fun j => w0.1 11 j) F (w0.1 4 0) h d) (cm_pr ia_arA (Int32.ofNat k)) = true := by
          rw [hfr 4 0 (by omega), show (fun j => w.1 11 j) = (fun j => w0.1 11 j) from funext fun j => hfr 11 j (by omega)]
          exact at_DP hd hh
        have hstep : (((List.range (k + 1)).map (fun k => cm_pr ia_arA (Int32.ofNat k))).foldl (at_st F (at_P (fun j => w0.1 11 j) F (w0.1 4 0) h d)) (0, (fun _ => Int32.ofInt 0), at_i F)) = at_st F (at_P (fun j => w0.1 11 j) F (w0.1 4 0) h d) (((List.range k).map (fun k => cm_pr ia_arA (Int32.ofNat k))).foldl (at_st F (at_P (fun j => w0.1 11 j) F (w0.1 4 0) h d)) (0, (fun _ => Int32.ofInt 0), at_i F)) (cm_pr ia_arA (Int32.ofNat k)) := by
          rw [List.range_succ, List.map_append, List.foldl_append]
          rfl
        have hye : (at_P (fun j => w0.1 11 j) F (w0.1 4 0) h d) (cm_pr ia_arA (Int32.ofNat k)) = true := hpw.mp (Int32.toInt_inj.mp h70_2)
        have hstep := hstep.trans (at_st_y (F := F) (P := (at_P (fun j => w0.1 11 j) F (w0.1 4 0) h d)) (p := (cm_pr ia_arA (Int32.ofNat k))) hye)
        refine aw_iinc (a := ((S0 : Int) : Int)) (b := (1 : Int)) (e := ((S0 : Int) + 1 : Int)) xd_9fd5d6f8 (by rw [xm_1f64b1a4]; rfl) rfl rfl hz4 (show ((Int32.ofInt 1)).toInt = 1 from by decide) (by omega) (by omega) (by omega) (fun v5_ p5_ => ?_)
        refine wk_iload xd_f5f0848c rfl ?_
        refine wk_aload_n xd_f3327835 rfl ?_
        refine wk_aload_n xd_5521bb51 rfl ?_
        refine wk_getI xf_969f3a72 xd_95a0158c ?_
        refine wk_iload xd_5cd9df58 rfl ?_
        obtain ⟨w1, hCn, g1, g2, g3⟩ := cnp_ok (w := w) (p := (cm_pr ia_arA (Int32.ofNat k))) (F := F) (show ((w.1 4 4)).toInt = ((F : Int) : Int) from hFw) hF4
        refine wk_call (kd := 0) (i := 59) xd_504f4068 rfl (wk_cal (as := [.inr (.inr (some 128)), .inl (w.1 4 4), .inl (cm_pr ia_arA (Int32.ofNat k))]) (t := [.inl z5]) xl_da5d09eb rfl xn_7f4a7a9a xc_28ab8081 rfl rfl xv_dd0559df rfl) (cm_C_mono (by omega) hCn) ?_
        refine wk_iand xd_405298f6 ?_
        refine wk_istore xd_9a1d1db3 (by rw [xm_1f64b1a4]; rfl) rfl ?_
        refine aw_iinc (a := ((k : Int) : Int)) (b := (1 : Int)) (e := ((k : Int) + 1 : Int)) xd_6d1e34b9 (by rw [xm_1f64b1a4]; rfl) rfl rfl (hk_to k (by omega)) (show ((Int32.ofInt 1)).toInt = 1 from by decide) (by omega) (by omega) (by omega) (fun v6_ p6_ => ?_)
        refine wk_goto xd_9e690d9a (t := 48) rfl ?_
        refine ih (k + 1) _ _ _ _ w1 (by omega) (by omega) ?_
        rw [hstep]
        refine ⟨?_, ?_, fun i hi => ?_, fun q i hq => (g2 q i hq).trans (hfr q i hq), g3.trans hf2⟩
        · rw [p5_, hS0e]
          rfl
        · rw [hz5]
        · rw [g1 i]
          show at_sn F (w.1 129) (cm_pr ia_arA (Int32.ofNat k)) i = at_sn F (((List.range k).map (fun k => cm_pr ia_arA (Int32.ofNat k))).foldl (at_st F (at_P (fun j => w0.1 11 j) F (w0.1 4 0) h d)) (0, (fun _ => Int32.ofInt 0), at_i F)).2.1 (cm_pr ia_arA (Int32.ofNat k)) i
          unfold at_sn
          rw [hse i hi]
theorem cgs_ok {w0 : cm_W} {h d : Int32} {F S : Nat} (hF : (w0.1 4 4).toInt = (F : Int)) (hF4 : F ≤ 4) (hS : (w0.1 4 0).toInt = (S : Int)) (hS0 : 0 < S) (hh : 0 ≤ h.toInt) (hd : 0 ≤ d.toInt) : ∃ x w', cm_C 4 178 [.inr (.inr (some 128)), .inr (.inr (some 4)), .inl h, .inl d] w0 (some (.inl x), w') ∧ x.toInt = ((((List.range (cm_pr ia_arH (Int32.ofNat F)).toInt.toNat).map (fun k => cm_pr ia_arA (Int32.ofNat k))).foldl (at_st F (at_P (fun j => w0.1 11 j) F (w0.1 4 0) h d)) (0, (fun _ => Int32.ofInt 0), at_i F)).1 : Int) ∧ (∀ k i, ¬ (k = 128 ∧ i < 2) → k ≠ 129 → w'.1 k i = w0.1 k i) ∧ w'.2 = w0.2 ∧ (((((List.range (cm_pr ia_arH (Int32.ofNat F)).toInt.toNat).map (fun k => cm_pr ia_arA (Int32.ofNat k))).foldl (at_st F (at_P (fun j => w0.1 11 j) F (w0.1 4 0) h d)) (0, (fun _ => Int32.ofInt 0), at_i F)).1 = 0 ∧ w'.1 128 0 = w0.1 128 0 ∧ w'.1 128 1 = w0.1 128 1) ∨ ((((List.range (cm_pr ia_arH (Int32.ofNat F)).toInt.toNat).map (fun k => cm_pr ia_arA (Int32.ofNat k))).foldl (at_st F (at_P (fun j => w0.1 11 j) F (w0.1 4 0) h d)) (0, (fun _ => Int32.ofInt 0), at_i F)).1 ≠ 0 ∧ w'.1 128 0 = (((List.range (cm_pr ia_arH (Int32.ofNat F)).toInt.toNat).map (fun k => cm_pr ia_arA (Int32.ofNat k))).foldl (at_st F (at_P (fun j => w0.1 11 j) F (w0.1 4 0) h d)) (0, (fun _ => Int32.ofInt 0), at_i F)).2.2 ∧ w'.1 128 1 = at_mu (((List.range (cm_pr ia_arH (Int32.ofNat F)).toInt.toNat).map (fun k => cm_pr ia_arA (Int32.ofNat k))).foldl (at_st F (at_P (fun j => w0.1 11 j) F (w0.1 4 0) h d)) (0, (fun _ => Int32.ofInt 0), at_i F)).2.1 F 0 (Int32.ofInt (-1)) (Int32.ofInt 0))) := by
  have h : ∃ o, cm_C (3 + 1) 178 [.inr (.inr (some 128)), .inr (.inr (some 4)), .inl h, .inl d] w0 o ∧ (fun o : cm_O => ∃ x w', o = (some (.inl x), w') ∧ x.toInt = ((((List.range (cm_pr ia_arH (Int32.ofNat F)).toInt.toNat).map (fun k => cm_pr ia_arA (Int32.ofNat k))).foldl (at_st F (at_P (fun j => w0.1 11 j) F (w0.1 4 0) h d)) (0, (fun _ => Int32.ofInt 0), at_i F)).1 : Int) ∧ (∀ k i, ¬ (k = 128 ∧ i < 2) → k ≠ 129 → w'.1 k i = w0.1 k i) ∧ w'.2 = w0.2 ∧ (((((List.range (cm_pr ia_arH (Int32.ofNat F)).toInt.toNat).map (fun k => cm_pr ia_arA (Int32.ofNat k))).foldl (at_st F (at_P (fun j => w0.1 11 j) F (w0.1 4 0) h d)) (0, (fun _ => Int32.ofInt 0), at_i F)).1 = 0 ∧ w'.1 128 0 = w0.1 128 0 ∧ w'.1 128 1 = w0.1 128 1) ∨ ((((List.range (cm_pr ia_arH (Int32.ofNat F)).toInt.toNat).map (fun k => cm_pr ia_arA (Int32.ofNat k))).foldl (at_st F (at_P (fun j => w0.1 11 j) F (w0.1 4 0) h d)) (0, (fun _ => Int32.ofInt 0), at_i F)).1 ≠ 0 ∧ w'.1 128 0 = (((List.range (cm_pr ia_arH (Int32.ofNat F)).toInt.toNat).map (fun k => cm_pr ia_arA (Int32.ofNat k))).foldl (at_st F (at_P (fun j => w0.1 11 j) F (w0.1 4 0) h d)) (0, (fun _ => Int32.ofInt 0), at_i F)).2.2 ∧ w'.1 128 1 = at_mu (((List.range (cm_pr ia_arH (Int32.ofNat F)).toInt.toNat).map (fun k => cm_pr ia_arA (Int32.ofNat k))).foldl (at_st F (at_P (fun j => w0.1 11 j) F (w0.1 4 0) h d)) (0, (fun _ => Int32.ofInt 0), at_i F)).2.1 F 0 (Int32.ofInt (-1)) (Int32.ofInt 0)))) o := by
    refine wk_entry (by rw [xm_1f64b1a4]; exact Nat.le_of_ble_eq_true rfl) ?_
    rw [show cm_ent 178 [.inr (.inr (some 128)), .inr (.inr (some 4)), .inl h, .inl d] = [some (.inr (.inr (some 128))), some (.inr (.inr (some 4))), some (.inl h), some (.inl d), none, none, none, none, none] from by unfold cm_ent; rw [xm_1f64b1a4]; rfl]
    refine wk_iconst xd_2fd4981a ?_
    refine wk_istore xd_8d9134aa (by rw [xm_1f64b1a4]; rfl) rfl ?_
    refine wk_iconst xd_2bcc1cea ?_
    refine wk_aload_n xd_823b0c93 rfl ?_
    refine wk_getI xf_969f3a72 xd_98889458 ?_
    rw [hk_of hF (by omega)]
    refine aw_ishl xd_b3ad1eaa ?_
    refine wk_iconst xd_bcdff36a ?_
    refine wk_isub xd_9f502138 ?_
    refine wk_istore xd_b8949241 (by rw [xm_1f64b1a4]; rfl) rfl ?_
    refine wk_iconst xd_1ec9ba01 ?_
    refine wk_istore xd_b4bd1f51 (by rw [xm_1f64b1a4]; rfl) rfl ?_
    refine wk_iload xd_c0a1a4dc rfl ?_
    refine wk_iconst xd_6b729781 ?_
    refine wk_icmp xd_286feac3 (t := 36) rfl (fun h => absurd (aw_ge_t (show ((Int32.ofInt 0)).toInt = 0 from by decide) (show ((Int32.ofInt 4)).toInt = 4 from by decide) h) (by omega)) (fun _ => ?_)
    refine wk_aload_n xd_f63e1382 rfl ?_
    refine wk_getR xf_a1f1abfb xd_66bab7a2 ?_
    refine wk_iload xd_f9d9099c rfl ?_
    refine wk_iconst xd_e817087c ?_
    refine aw_iastore (i := 0) xf_d002a5c0 (show ((Int32.ofInt 0)).toInt = 0 from by decide) (by omega) (by omega) xd_294298f6 ?_
    refine aw_iinc (a := (0 : Int)) (b := (1 : Int)) (e := (1 : Int)) xd_316ecb02 (by rw [xm_1f64b1a4]; rfl) rfl rfl (show ((Int32.ofInt 0)).toInt = 0 from by decide) (show ((Int32.ofInt 1)).toInt = 1 from by decide) (by omega) (by omega) (by omega) (fun v2_ p2_ => ?_)
    refine wk_goto xd_8a787305 (t := 16) rfl ?_
    refine wk_iload xd_c0a1a4dc rfl ?_
    refine wk_iconst xd_6b729781 ?_
    refine wk_icmp xd_286feac3 (t := 36) rfl (fun h => absurd (aw_ge_t p2_ (show ((Int32.ofInt 4)).toInt = 4 from by decide) h) (by omega)) (fun _ => ?_)
    refine wk_aload_n xd_f63e1382 rfl ?_
    refine wk_getR xf_a1f1abfb xd_66bab7a2 ?_
    refine wk_iload xd_f9d9099c rfl ?_
    refine wk_iconst xd_e817087c ?_
    refine aw_iastore (i := 1) xf_d002a5c0 p2_ (by omega) (by omega) xd_294298f6 ?_
    refine aw_iinc (a := (1 : Int)) (b := (1 : Int)) (e := (2 : Int)) xd_316ecb02 (by rw [xm_1f64b1a4]; rfl) rfl rfl p2_ (show ((Int32.ofInt 1)).toInt = 1 from by decide) (by omega) (by omega) (by omega) (fun v4_ p4_ => ?_)
    refine wk_goto xd_8a787305 (t := 16) rfl ?_
    refine wk_iload xd_c0a1a4dc rfl ?_
    refine wk_iconst xd_6b729781 ?_
    refine wk_icmp xd_286feac3 (t := 36) rfl (fun h => absurd (aw_ge_t p4_ (show ((Int32.ofInt 4)).toInt = 4 from by decide) h) (by omega)) (fun _ => ?_)
    refine wk_aload_n xd_f63e1382 rfl ?_
    refine wk_getR xf_a1f1abfb xd_66bab7a2 ?_
    refine wk_iload xd_f9d9099c rfl ?_
    refine wk_iconst xd_e817087c ?_
    refine aw_iastore (i := 2) xf_d002a5c0 p4_ (by omega) (by omega) xd_294298f6 ?_
    refine aw_iinc (a := (2 : Int)) (b := (1 : Int)) (e := (3 : Int)) xd_316ecb02 (by rw [xm_1f64b1a4]; rfl) rfl rfl p4_ (show ((Int32.ofInt 1)).toInt = 1 from by decide) (by omega) (by omega) (by omega) (fun v6_ p6_ => ?_)
    refine wk_goto xd_8a787305 (t := 16) rfl ?_
    refine wk_iload xd_c0a1a4dc rfl ?_
    refine wk_iconst xd_6b729781 ?_
    refine wk_icmp xd_286feac3 (t := 36) rfl (fun h => absurd (aw_ge_t p6_ (show ((Int32.ofInt 4)).toInt = 4 from by decide) h) (by omega)) (fun _ => ?_)
    refine wk_aload_n xd_f63e1382 rfl ?_
    refine wk_getR xf_a1f1abfb xd_66bab7a2 ?_
    refine wk_iload xd_f9d9099c rfl ?_
    refine wk_iconst xd_e817087c ?_
    refine aw_iastore (i := 3) xf_d002a5c0 p6_ (by omega) (by omega) xd_294298f6 ?_
    refine aw_iinc (a := (3 : Int)) (b := (1 : Int)) (e := (4 : Int)) xd_316ecb02 (by rw [xm_1f64b1a4]; rfl) rfl rfl p6_ (show ((Int32.ofInt 1)).toInt = 1 from by decide) (by omega) (by omega) (by omega) (fun v8_ p8_ => ?_)
    refine wk_goto xd_8a787305 (t := 16) rfl ?_
    refine wk_iload xd_c0a1a4dc rfl ?_
    refine wk_iconst xd_6b729781 ?_
    refine wk_icmp xd_286feac3 (t := 36) rfl (fun _ => ?_) (fun h => absurd (aw_ge_f p8_ (show ((Int32.ofInt 4)).toInt = 4 from by decide) h) (by omega))
    refine wk_aload_n xd_4a27fe86 rfl ?_
    refine wk_getI xf_969f3a72 xd_fc8e2960 ?_
    have hCh : cm_C 3 179 [.inl (Int32.ofNat F)] (cm_u1 (cm_u1 (cm_u1 (cm_u1 w0 129 0 (Int32.ofInt 0)) 129 1 (Int32.ofInt 0)) 129 2 (Int32.ofInt 0)) 129 3 (Int32.ofInt 0)) (some (.inl (cm_pr ia_arH (Int32.ofNat F))), (cm_u1 (cm_u1 (cm_u1 (cm_u1 w0 129 0 (Int32.ofInt 0)) 129 1 (Int32.ofInt 0)) 129 2 (Int32.ofInt 0)) 129 3 (Int32.ofInt 0))) := cm_C_mono (d := 1) (by omega) (Or.inl (Or.inr ⟨rfl, _, rfl, rfl⟩))
    have hhm := hb_in (hs_pr (by decide) hs_arH (Int32.ofNat F))
    obtain ⟨N, hN⟩ : ∃ N : Nat, N = (cm_pr ia_arH (Int32.ofNat F)).toInt.toNat := ⟨_, rfl⟩
    have hvN : (cm_pr ia_arH (Int32.ofNat F)).toInt = (N : Int) := by omega
    rw [show ((cm_u1 (cm_u1 (cm_u1 (cm_u1 w0 129 0 (Int32.ofInt 0)) 129 1 (Int32.ofInt 0)) 129 2 (Int32.ofInt 0)) 129 3 (Int32.ofInt 0)).1 4 4) = Int32.ofNat F from hk_of (show (((cm_u1 (cm_u1 (cm_u1 (cm_u1 w0 129 0 (Int32.ofInt 0)) 129 1 (Int32.ofInt 0)) 129 2 (Int32.ofInt 0)) 129 3 (Int32.ofInt 0)).1 4 4)).toInt = ((F : Int) : Int) from hF) (by omega)]
    refine wk_call (kd := 1) (i := 48) xd_19b63b68 rfl (wk_cal (as := [.inl (Int32.ofNat F)]) (t := []) xl_96cb4fe1 rfl xn_5062e2a2 xc_0a21317a rfl rfl rfl rfl) hCh ?_
    refine wk_istore xd_4a4b6a56 (by rw [xm_1f64b1a4]; rfl) rfl ?_
    refine wk_iconst xd_f717abc6 ?_
    refine wk_istore xd_3ca2b426 (by rw [xm_1f64b1a4]; rfl) rfl ?_
    refine cgs_lp (w0 := w0) hF hF4 hS hS0 hh hd hvN (by omega) _ (fun w z4 z5 vk o8 hI => ?_) N 0 _ _ _ _ (cm_u1 (cm_u1 (cm_u1 (cm_u1 w0 129 0 (Int32.ofInt 0)) 129 1 (Int32.ofInt 0)) 129 2 (Int32.ofInt 0)) 129 3 (Int32.ofInt 0)) (by omega) (show ((Int32.ofInt 0)).toInt = 0 from by decide) ⟨show (Int32.ofInt 0).toInt = 0 from by decide, rfl, fun i hi => ?_, fun k i hk => ?_, rfl⟩
    rotate_left
    · rcases (show i = 0 ∨ i = 1 ∨ i = 2 ∨ i = 3 by omega) with rfl | rfl | rfl | rfl
      all_goals rfl
    · rw [hs_u1_ne (by omega), hs_u1_ne (by omega), hs_u1_ne (by omega), hs_u1_ne (by omega)]
    obtain ⟨hz4, hz5, hse, hfr, hf2⟩ := id hI
    rw [hN] at hz4 hz5 hse
    obtain ⟨S0, hS0e⟩ : ∃ S0 : Nat, S0 = (((List.range (cm_pr ia_arH (Int32.ofNat F)).toInt.toNat).map (fun k => cm_pr ia_arA (Int32.ofNat k))).foldl (at_st F (at_P (fun j => w0.1 11 j) F (w0.1 4 0) h d)) (0, (fun _ => Int32.ofInt 0), at_i F)).1 := ⟨_, rfl⟩
    rw [← hS0e] at hz4
    have hFw : (w.1 4 4).toInt = (F : Int) := by rw [hfr 4 4 (by omega)]; exact hF
    refine wk_iload xd_9cf85222 rfl ?_
    refine wk_if xd_d2d34b1a (t := 120) rfl (fun h99_0 => ?_) (fun h99_0 => ?_)
    · have h99_0 := aw_le_t (a := ((S0 : Int) : Int)) (b := (0 : Int)) hz4 hb_z h99_0
      refine wk_iload xd_7d41d061 rfl ?_
      exact wk_ireturn xd_d8f66fb9 xr_5427306d rfl ⟨_, _, rfl, by rw [hz4, hS0e], fun k i h1 h2 => hfr k i h2, hf2, .inl ⟨by omega, hfr 128 0 (by omega), hfr 128 1 (by omega)⟩⟩
    · have h99_0 := aw_le_f (a := ((S0 : Int) : Int)) (b := (0 : Int)) hz4 hb_z h99_0
      refine wk_aload_n xd_0b4dcdc6 rfl ?_
      refine wk_iload xd_156fb2b2 rfl ?_
      refine wk_putI xf_513e9191 (fun ci => wk_fitI ci) xd_bf734621 ?_
      refine wk_aload_n xd_e6625d09 rfl ?_
      refine wk_aload_n xd_7d11b7dd rfl ?_
      refine wk_aload_n xd_5a9e52b8 rfl ?_
      refine wk_getI xf_969f3a72 xd_622bcd67 ?_
      have hCm := cmu_ok (w := (cm_u1 w 128 0 z5)) (F := F) (vF := ((cm_u1 w 128 0 z5).1 4 4)) (show (((cm_u1 w 128 0 z5).1 4 4)).toInt = ((F : Int) : Int) from hFw) hF4
      refine wk_call (kd := 0) (i := 62) xd_ab72e774 rfl (wk_cal (as := [.inr (.inr (some 128)), .inl ((cm_u1 w 128 0 z5).1 4 4)]) (t := [.inr (.inr (some 128))]) xl_f30ae1f6 rfl xn_352d63bc xc_8eb843e5 rfl rfl xv_ebf7c92c rfl) (cm_C_mono (by omega) hCm) ?_
      refine wk_putI xf_0b8b5458 (fun ci => wk_fitI ci) xd_ce25bbe7 ?_
      refine wk_iload xd_7d41d061 rfl ?_
      exact wk_ireturn xd_d8f66fb9 xr_5427306d rfl ⟨_, _, rfl, by rw [hz4, hS0e], fun k i h1 h2 => (hs_u1_ne (by omega)).trans ((hs_u1_ne (by omega)).trans (hfr k i h2)), hf2, .inr ⟨by omega, (hs_u1_ne (by omega)).trans (hs_u1_self.trans hz5), hs_u1_self.trans (at_mue F 0 _ _ (fun i _ hi => (hs_u1_ne (by omega)).trans (hse i (by omega))))⟩⟩
  obtain ⟨o, hC, x, w', rfl, a⟩ := h
  exact ⟨x, w', hC, a⟩
theorem cat_ok {w0 : cm_W} {F S n : Nat} (hn : (w0.1 0 1).toInt = (n : Int)) (hF : (w0.1 4 4).toInt = (F : Int)) (hF4 : F ≤ 4) (hS : (w0.1 4 0).toInt = (S : Int)) (hS0 : 0 < S) (b0 : 0 ≤ (w0.1 1 0).toInt) (b1 : 0 ≤ (w0.1 1 1).toInt) : ∃ x w', cm_C 5 3 [.inr (.inr (some 0))] w0 (some (.inl x), w') ∧ ((¬ (n = 2 ∧ (w0.1 1 0).toInt ≤ 199) ∧ x = Int32.ofInt (-1) ∧ w' = cm_u1 w0 0 1 (Int32.ofInt 0)) ∨ (n = 2 ∧ (w0.1 1 0).toInt ≤ 199 ∧ x.toInt = ((((List.range (cm_pr ia_arH (Int32.ofNat F)).toInt.toNat).map (fun k => cm_pr ia_arA (Int32.ofNat k))).foldl (at_st F (at_P (fun j => w0.1 11 j) F (w0.1 4 0) (w0.1 1 0) (w0.1 1 1))) (0, (fun _ => Int32.ofInt 0), at_i F)).1 : Int) ∧ (∀ k i, ¬ (k = 128 ∧ i < 2) → k ≠ 129 → ¬ (k = 0 ∧ i = 1) → w'.1 k i = w0.1 k i) ∧ w'.2 = w0.2 ∧ (w'.1 0 1).toInt = 0 ∧ (((((List.range (cm_pr ia_arH (Int32.ofNat F)).toInt.toNat).map (fun k => cm_pr ia_arA (Int32.ofNat k))).foldl (at_st F (at_P (fun j => w0.1 11 j) F (w0.1 4 0) (w0.1 1 0) (w0.1 1 1))) (0, (fun _ => Int32.ofInt 0), at_i F)).1 = 0 ∧ w'.1 128 0 = w0.1 128 0 ∧ w'.1 128 1 = w0.1 128 1) ∨ ((((List.range (cm_pr ia_arH (Int32.ofNat F)).toInt.toNat).map (fun k => cm_pr ia_arA (Int32.ofNat k))).foldl (at_st F (at_P (fun j => w0.1 11 j) F (w0.1 4 0) (w0.1 1 0) (w0.1 1 1))) (0, (fun _ => Int32.ofInt 0), at_i F)).1 ≠ 0 ∧ w'.1 128 0 = (((List.range (cm_pr ia_arH (Int32.ofNat F)).toInt.toNat).map (fun k => cm_pr ia_arA (Int32.ofNat k))).foldl (at_st F (at_P (fun j => w0.1 11 j) F (w0.1 4 0) (w0.1 1 0) (w0.1 1 1))) (0, (fun _ => Int32.ofInt 0), at_i F)).2.2 ∧ w'.1 128 1 = at_mu (((List.range (cm_pr ia_arH (Int32.ofNat F)).toInt.toNat).map (fun k => cm_pr ia_arA (Int32.ofNat k))).foldl (at_st F (at_P (fun j => w0.1 11 j) F (w0.1 4 0) (w0.1 1 0) (w0.1 1 1))) (0, (fun _ => Int32.ofInt 0), at_i F)).2.1 F 0 (Int32.ofInt (-1)) (Int32.ofInt 0))))) := by
  have h : ∃ o, cm_C (4 + 1) 3 [.inr (.inr (some 0))] w0 o ∧ (fun o : cm_O => ∃ x w', o = (some (.inl x), w') ∧ ((¬ (n = 2 ∧ (w0.1 1 0).toInt ≤ 199) ∧ x = Int32.ofInt (-1) ∧ w' = cm_u1 w0 0 1 (Int32.ofInt 0)) ∨ (n = 2 ∧ (w0.1 1 0).toInt ≤ 199 ∧ x.toInt = ((((List.range (cm_pr ia_arH (Int32.ofNat F)).toInt.toNat).map (fun k => cm_pr ia_arA (Int32.ofNat k))).foldl (at_st F (at_P (fun j => w0.1 11 j) F (w0.1 4 0) (w0.1 1 0) (w0.1 1 1))) (0, (fun _ => Int32.ofInt 0), at_i F)).1 : Int) ∧ (∀ k i, ¬ (k = 128 ∧ i < 2) → k ≠ 129 → ¬ (k = 0 ∧ i = 1) → w'.1 k i = w0.1 k i) ∧ w'.2 = w0.2 ∧ (w'.1 0 1).toInt = 0 ∧ (((((List.range (cm_pr ia_arH (Int32.ofNat F)).toInt.toNat).map (fun k => cm_pr ia_arA (Int32.ofNat k))).foldl (at_st F (at_P (fun j => w0.1 11 j) F (w0.1 4 0) (w0.1 1 0) (w0.1 1 1))) (0, (fun _ => Int32.ofInt 0), at_i F)).1 = 0 ∧ w'.1 128 0 = w0.1 128 0 ∧ w'.1 128 1 = w0.1 128 1) ∨ ((((List.range (cm_pr ia_arH (Int32.ofNat F)).toInt.toNat).map (fun k => cm_pr ia_arA (Int32.ofNat k))).foldl (at_st F (at_P (fun j => w0.1 11 j) F (w0.1 4 0) (w0.1 1 0) (w0.1 1 1))) (0, (fun _ => Int32.ofInt 0), at_i F)).1 ≠ 0 ∧ w'.1 128 0 = (((List.range (cm_pr ia_arH (Int32.ofNat F)).toInt.toNat).map (fun k => cm_pr ia_arA (Int32.ofNat k))).foldl (at_st F (at_P (fun j => w0.1 11 j) F (w0.1 4 0) (w0.1 1 0) (w0.1 1 1))) (0, (fun _ => Int32.ofInt 0), at_i F)).2.2 ∧ w'.1 128 1 = at_mu (((List.range (cm_pr ia_arH (Int32.ofNat F)).toInt.toNat).map (fun k => cm_pr ia_arA (Int32.ofNat k))).foldl (at_st F (at_P (fun j => w0.1 11 j) F (w0.1 4 0) (w0.1 1 0) (w0.1 1 1))) (0, (fun _ => Int32.ofInt 0), at_i F)).2.1 F 0 (Int32.ofInt (-1)) (Int32.ofInt 0)))))) o := by
    refine wk_entry (by rw [xm_7d437b01]; exact Nat.le_of_ble_eq_true rfl) ?_
    rw [show cm_ent 3 [.inr (.inr (some 0))] = [some (.inr (.inr (some 0))), none] from by unfold cm_ent; rw [xm_7d437b01]; rfl]
    refine wk_aload_n xd_a72f46de rfl ?_
    refine wk_getI xf_bc016233 xd_05ec7e20 ?_
    refine wk_istore_n xd_95db6f2c (by rw [xm_7d437b01]; rfl) rfl ?_
    refine wk_aload_n xd_3c000d99 rfl ?_
    refine wk_iconst xd_c2a0db4d ?_
    refine wk_putI xf_9e02f687 (fun ci => wk_fitI ci) xd_658efa35 ?_
    refine wk_iload_n xd_8ec7f703 rfl ?_
    refine wk_iconst xd_5271e28f ?_
    refine wk_icmp xd_27e540bf (t := 27) rfl (fun h12_0 => ?_) (fun h12_0 => ?_)
    · have h12_0 := aw_ne_t (a := ((n : Int) : Int)) (b := (2 : Int)) (show ((w0.1 0 1)).toInt = ((n : Int) : Int) from hn) (show ((Int32.ofInt 2)).toInt = 2 from by decide) h12_0
      refine wk_iconst xd_9f84d641 ?_
      exact wk_ireturn xd_8e20f13e xr_a2268891 rfl ⟨_, _, rfl, .inl ⟨by omega, rfl, rfl⟩⟩
    · have h12_0 := aw_ne_f (a := ((n : Int) : Int)) (b := (2 : Int)) (show ((w0.1 0 1)).toInt = ((n : Int) : Int) from hn) (show ((Int32.ofInt 2)).toInt = 2 from by decide) h12_0
      refine wk_aload_n xd_728b4699 rfl ?_
      refine wk_getR xf_25bea5a3 xd_9aa062e6 ?_
      refine wk_iconst xd_91f297ef ?_
      refine aw_iaload (i := 0) xf_97ae57c2 (show ((Int32.ofInt 0)).toInt = 0 from by decide) (by omega) (by omega) xd_ec213cb0 ?_
      refine wk_sipush xd_a526c46c ?_
      refine wk_icmp xd_59cfc7ba (t := 29) rfl (fun h24_1 => ?_) (fun h24_1 => ?_)
      · have h24_1 := aw_le_t (a := ((w0.1 1 0).toInt : Int)) (b := (199 : Int)) rfl (show (((Int16.ofInt 199).toInt32)).toInt = 199 from by decide) h24_1
        refine wk_aload_n xd_2a700d04 rfl ?_
        refine wk_getR xf_8b16a91d xd_9eeead6d ?_
        refine wk_aload_n xd_467af8ec rfl ?_
        refine wk_getR xf_f84a9dbe xd_bfc3a086 ?_
        refine wk_aload_n xd_4626597f rfl ?_
        refine wk_getR xf_25bea5a3 xd_68f62a55 ?_
        refine wk_iconst xd_b39efaa8 ?_
        refine aw_iaload (i := 0) xf_97ae57c2 (show ((Int32.ofInt 0)).toInt = 0 from by decide) (by omega) (by omega) xd_d0d24ffa ?_
        refine wk_aload_n xd_7762cf9b rfl ?_
        refine wk_getR xf_25bea5a3 xd_1dad741c ?_
        refine wk_iconst xd_fc0f8998 ?_
        refine aw_iaload (i := 1) xf_97ae57c2 (show ((Int32.ofInt 1)).toInt = 1 from by decide) (by omega) (by omega) xd_87c7efc4 ?_
        obtain ⟨x, w1, hCg, q1, q2, q3, q4⟩ := cgs_ok (w0 := (cm_u1 w0 0 1 (Int32.ofInt 0))) (h := ((cm_u1 w0 0 1 (Int32.ofInt 0)).1 1 0)) (d := ((cm_u1 w0 0 1 (Int32.ofInt 0)).1 1 1)) (F := F) (S := S) hF hF4 hS hS0 (show 0 ≤ (w0.1 1 0).toInt from b0) (show 0 ≤ (w0.1 1 1).toInt from b1)
        refine wk_call (kd := 0) (i := 323) xd_bd7e6ae8 rfl (wk_cal (as := [.inr (.inr (some 128)), .inr (.inr (some 4)), .inl ((cm_u1 w0 0 1 (Int32.ofInt 0)).1 1 0), .inl ((cm_u1 w0 0 1 (Int32.ofInt 0)).1 1 1)]) (t := []) xl_679debe9 rfl xn_1d683f9d xc_ac32f21e rfl rfl xv_87fe7086 rfl) (cm_C_mono (by omega) hCg) ?_
        exact wk_ireturn xd_2acfc775 xr_a2268891 rfl ⟨_, _, rfl, .inr ⟨by omega, by omega, q1, fun k i h1 h2 h3 => (q2 k i h1 h2).trans (hs_u1_ne h3), q3, by rw [q2 0 1 (by omega) (by omega), hs_u1_self]; decide, q4⟩⟩
      · have h24_1 := aw_le_f (a := ((w0.1 1 0).toInt : Int)) (b := (199 : Int)) rfl (show (((Int16.ofInt 199).toInt32)).toInt = 199 from by decide) h24_1
        refine wk_iconst xd_9f84d641 ?_
        exact wk_ireturn xd_8e20f13e xr_a2268891 rfl ⟨_, _, rfl, .inl ⟨by omega, rfl, rfl⟩⟩
  obtain ⟨o, hC, x, w', rfl, a⟩ := h
  exact ⟨x, w', hC, a⟩

/-! ## by hand: State.copyFrom, History of the class (wip/p2/gen9h.py) -/
set_option maxRecDepth 100000 in
theorem xd_f207e404 : decode (ia_code 72) 0 = .ok (.aload_n 0, 1) := fdd_d (by decide +kernel)
set_option maxRecDepth 100000 in
theorem xd_54142760 : decode (ia_code 72) 1 = .ok (.aload_n 1, 1) := fdd_d (by decide +kernel)
set_option maxRecDepth 100000 in
theorem xd_956f11b0 : decode (ia_code 72) 2 = .ok (.getfield 34, 3) := fdd_d (by decide +kernel)
set_option maxRecDepth 100000 in
theorem xf_3d7a127e : wk_gf 72 34 33 1 0 = true := by decide +kernel
set_option maxRecDepth 100000 in
theorem xd_e2ee4121 : decode (ia_code 72) 5 = .ok (.putfield 34, 3) := fdd_d (by decide +kernel)
set_option maxRecDepth 100000 in
theorem xf_66108846 : wk_pf 72 34 49 1 0 = true := by decide +kernel
set_option maxRecDepth 100000 in
theorem xg_1bebdcea : sv_g sg 49 1 = sv_top := by decide +kernel
set_option maxRecDepth 100000 in
theorem xd_f2bea722 : decode (ia_code 72) 8 = .ok (.aload_n 0, 1) := fdd_d (by decide +kernel)
set_option maxRecDepth 100000 in
theorem xd_54ad6446 : decode (ia_code 72) 9 = .ok (.aload_n 1, 1) := fdd_d (by decide +kernel)
set_option maxRecDepth 100000 in
theorem xd_4b627024 : decode (ia_code 72) 10 = .ok (.getfield 38, 3) := fdd_d (by decide +kernel)
set_option maxRecDepth 100000 in
theorem xf_93b80099 : wk_gf 72 38 33 2 0 = true := by decide +kernel
set_option maxRecDepth 100000 in
theorem xd_c75e6a4e : decode (ia_code 72) 13 = .ok (.putfield 38, 3) := fdd_d (by decide +kernel)
set_option maxRecDepth 100000 in
theorem xf_c8d29aa1 : wk_pf 72 38 49 2 0 = true := by decide +kernel
set_option maxRecDepth 100000 in
theorem xg_f0dc67e9 : sv_g sg 49 2 = sv_top := by decide +kernel
set_option maxRecDepth 100000 in
theorem xd_623d6ccc : decode (ia_code 72) 16 = .ok (.aload_n 0, 1) := fdd_d (by decide +kernel)
set_option maxRecDepth 100000 in
theorem xd_c42eafa8 : decode (ia_code 72) 17 = .ok (.aload_n 1, 1) := fdd_d (by decide +kernel)
set_option maxRecDepth 100000 in
theorem xd_777cb15a : decode (ia_code 72) 18 = .ok (.getfield 41, 3) := fdd_d (by decide +kernel)
set_option maxRecDepth 100000 in
theorem xf_f7f184bd : wk_gf 72 41 33 3 0 = true := by decide +kernel
set_option maxRecDepth 100000 in
theorem xd_b57af322 : decode (ia_code 72) 21 = .ok (.putfield 41, 3) := fdd_d (by decide +kernel)
set_option maxRecDepth 100000 in
theorem xf_ac9b1e85 : wk_pf 72 41 49 3 0 = true := by decide +kernel
set_option maxRecDepth 100000 in
theorem xg_1f1e0cd7 : sv_g sg 49 3 = sv_top := by decide +kernel
set_option maxRecDepth 100000 in
theorem xd_ead53fbd : decode (ia_code 72) 24 = .ok (.aload_n 1, 1) := fdd_d (by decide +kernel)
set_option maxRecDepth 100000 in
theorem xd_b45cc7e4 : decode (ia_code 72) 25 = .ok (.getfield 9, 3) := fdd_d (by decide +kernel)
set_option maxRecDepth 100000 in
theorem xf_6558dbb5 : wk_gf 72 9 33 4 (34 + 3) = true := by decide +kernel
set_option maxRecDepth 100000 in
theorem xd_a51768c8 : decode (ia_code 72) 28 = .ok (.iconst 0, 1) := fdd_d (by decide +kernel)
set_option maxRecDepth 100000 in
theorem xd_4c231e6c : decode (ia_code 72) 29 = .ok (.aload_n 0, 1) := fdd_d (by decide +kernel)
set_option maxRecDepth 100000 in
theorem xd_f9f4ac92 : decode (ia_code 72) 30 = .ok (.getfield 9, 3) := fdd_d (by decide +kernel)
set_option maxRecDepth 100000 in
theorem xf_c1724772 : wk_gf 72 9 49 4 (50 + 3) = true := by decide +kernel
set_option maxRecDepth 100000 in
theorem xd_be5f095c : decode (ia_code 72) 33 = .ok (.iconst 0, 1) := fdd_d (by decide +kernel)
set_option maxRecDepth 100000 in
theorem xd_b4989d86 : decode (ia_code 72) 34 = .ok (.bipush 6, 2) := fdd_d (by decide +kernel)
set_option maxRecDepth 100000 in
theorem xd_4e091714 : decode (ia_code 72) 36 = .ok (.invokestatic 51, 3) := fdd_d (by decide +kernel)
set_option maxRecDepth 100000 in
theorem xl_cbb5c3e5 : ia_pl (ia_cls 72) 51 = some (3, 0, 0, 0, 925) := by decide +kernel
set_option maxRecDepth 100000 in
theorem xf_6a47d56f : aw_cpf 50 34 6 16 = true := by decide +kernel
set_option maxRecDepth 100000 in
theorem xf_e732ac87 : sv_gr sg 50 = [] := by decide +kernel
set_option maxRecDepth 100000 in
theorem xd_f06652fb : decode (ia_code 72) 39 = .ok (.aload_n 1, 1) := fdd_d (by decide +kernel)
set_option maxRecDepth 100000 in
theorem xd_33b325d7 : decode (ia_code 72) 40 = .ok (.getfield 15, 3) := fdd_d (by decide +kernel)
set_option maxRecDepth 100000 in
theorem xf_73b645bc : wk_gf 72 15 33 5 (35 + 3) = true := by decide +kernel
set_option maxRecDepth 100000 in
theorem xd_c8e691f2 : decode (ia_code 72) 43 = .ok (.iconst 0, 1) := fdd_d (by decide +kernel)
set_option maxRecDepth 100000 in
theorem xd_6788445d : decode (ia_code 72) 44 = .ok (.aload_n 0, 1) := fdd_d (by decide +kernel)
set_option maxRecDepth 100000 in
theorem xd_6d85ff22 : decode (ia_code 72) 45 = .ok (.getfield 15, 3) := fdd_d (by decide +kernel)
set_option maxRecDepth 100000 in
theorem xf_d79cd97b : wk_gf 72 15 49 5 (51 + 3) = true := by decide +kernel
set_option maxRecDepth 100000 in
theorem xd_48dd1ab2 : decode (ia_code 72) 48 = .ok (.iconst 0, 1) := fdd_d (by decide +kernel)
set_option maxRecDepth 100000 in
theorem xd_30ebd4e8 : decode (ia_code 72) 49 = .ok (.bipush 6, 2) := fdd_d (by decide +kernel)
set_option maxRecDepth 100000 in
theorem xd_352d5499 : decode (ia_code 72) 51 = .ok (.invokestatic 51, 3) := fdd_d (by decide +kernel)
set_option maxRecDepth 100000 in
theorem xf_19b99d7b : aw_cpf 51 35 6 16 = true := by decide +kernel
set_option maxRecDepth 100000 in
theorem xf_2c6e7f22 : sv_gr sg 51 = [] := by decide +kernel
set_option maxRecDepth 100000 in
theorem xd_dbcd08ca : decode (ia_code 72) 54 = .ok (.aload_n 1, 1) := fdd_d (by decide +kernel)
set_option maxRecDepth 100000 in
theorem xd_72089d04 : decode (ia_code 72) 55 = .ok (.getfield 18, 3) := fdd_d (by decide +kernel)
set_option maxRecDepth 100000 in
theorem xf_6f2ca336 : wk_gf 72 18 33 6 (36 + 3) = true := by decide +kernel
set_option maxRecDepth 100000 in
theorem xd_d3aef066 : decode (ia_code 72) 58 = .ok (.iconst 0, 1) := fdd_d (by decide +kernel)
set_option maxRecDepth 100000 in
theorem xd_7d3b291b : decode (ia_code 72) 59 = .ok (.aload_n 0, 1) := fdd_d (by decide +kernel)
set_option maxRecDepth 100000 in
theorem xd_de69aa09 : decode (ia_code 72) 60 = .ok (.getfield 18, 3) := fdd_d (by decide +kernel)
set_option maxRecDepth 100000 in
theorem xf_cb063ff1 : wk_gf 72 18 49 6 (52 + 3) = true := by decide +kernel
set_option maxRecDepth 100000 in
theorem xd_2570421b : decode (ia_code 72) 63 = .ok (.iconst 0, 1) := fdd_d (by decide +kernel)
set_option maxRecDepth 100000 in
theorem xd_2fb7d6c1 : decode (ia_code 72) 64 = .ok (.bipush 6, 2) := fdd_d (by decide +kernel)
set_option maxRecDepth 100000 in
theorem xd_83ea783c : decode (ia_code 72) 66 = .ok (.invokestatic 51, 3) := fdd_d (by decide +kernel)
set_option maxRecDepth 100000 in
theorem xf_8dbb4547 : aw_cpf 52 36 6 16 = true := by decide +kernel
set_option maxRecDepth 100000 in
theorem xf_aafa0d8c : sv_gr sg 52 = [] := by decide +kernel
set_option maxRecDepth 100000 in
theorem xd_1845a983 : decode (ia_code 72) 69 = .ok (.aload_n 1, 1) := fdd_d (by decide +kernel)
set_option maxRecDepth 100000 in
theorem xd_b2f01c41 : decode (ia_code 72) 70 = .ok (.getfield 21, 3) := fdd_d (by decide +kernel)
set_option maxRecDepth 100000 in
theorem xf_ed92ca0d : wk_gf 72 21 33 7 (37 + 3) = true := by decide +kernel
set_option maxRecDepth 100000 in
theorem xd_be03a8cf : decode (ia_code 72) 73 = .ok (.iconst 0, 1) := fdd_d (by decide +kernel)
set_option maxRecDepth 100000 in
theorem xd_3f96ed75 : decode (ia_code 72) 74 = .ok (.aload_n 0, 1) := fdd_d (by decide +kernel)
set_option maxRecDepth 100000 in
theorem xd_ecc6c6b4 : decode (ia_code 72) 75 = .ok (.getfield 21, 3) := fdd_d (by decide +kernel)
set_option maxRecDepth 100000 in
theorem xf_49b856ca : wk_gf 72 21 49 7 (53 + 3) = true := by decide +kernel
set_option maxRecDepth 100000 in
theorem xd_3e38238f : decode (ia_code 72) 78 = .ok (.iconst 0, 1) := fdd_d (by decide +kernel)
set_option maxRecDepth 100000 in
theorem xd_dc90e18f : decode (ia_code 72) 79 = .ok (.iconst 4, 1) := fdd_d (by decide +kernel)
set_option maxRecDepth 100000 in
theorem xd_a3bffc94 : decode (ia_code 72) 80 = .ok (.invokestatic 51, 3) := fdd_d (by decide +kernel)
set_option maxRecDepth 100000 in
theorem xf_a629b492 : aw_cpf 53 37 4 16 = true := by decide +kernel
set_option maxRecDepth 100000 in
theorem xf_61a6de29 : sv_gr sg 53 = [] := by decide +kernel
set_option maxRecDepth 100000 in
theorem xd_975a57a2 : decode (ia_code 72) 83 = .ok (.aload_n 1, 1) := fdd_d (by decide +kernel)
set_option maxRecDepth 100000 in
theorem xd_0c478f50 : decode (ia_code 72) 84 = .ok (.getfield 24, 3) := fdd_d (by decide +kernel)
set_option maxRecDepth 100000 in
theorem xf_47e9db2d : wk_gf 72 24 33 8 (38 + 3) = true := by decide +kernel
set_option maxRecDepth 100000 in
theorem xd_94a2e047 : decode (ia_code 72) 87 = .ok (.iconst 0, 1) := fdd_d (by decide +kernel)
set_option maxRecDepth 100000 in
theorem xd_dc660409 : decode (ia_code 72) 88 = .ok (.aload_n 0, 1) := fdd_d (by decide +kernel)
set_option maxRecDepth 100000 in
theorem xd_7e7ac612 : decode (ia_code 72) 89 = .ok (.getfield 24, 3) := fdd_d (by decide +kernel)
set_option maxRecDepth 100000 in
theorem xf_b9c09487 : wk_gf 72 24 49 8 (54 + 3) = true := by decide +kernel
set_option maxRecDepth 100000 in
theorem xd_4458fd53 : decode (ia_code 72) 92 = .ok (.iconst 0, 1) := fdd_d (by decide +kernel)
set_option maxRecDepth 100000 in
theorem xd_3c6e3309 : decode (ia_code 72) 93 = .ok (.bipush 6, 2) := fdd_d (by decide +kernel)
set_option maxRecDepth 100000 in
theorem xd_abb6a469 : decode (ia_code 72) 95 = .ok (.invokestatic 51, 3) := fdd_d (by decide +kernel)
set_option maxRecDepth 100000 in
theorem xf_24cc2013 : aw_cpf 54 38 6 16 = true := by decide +kernel
set_option maxRecDepth 100000 in
theorem xf_7ca3ee91 : sv_gr sg 54 = [] := by decide +kernel
set_option maxRecDepth 100000 in
theorem xd_6023489e : decode (ia_code 72) 98 = .ok (.aload_n 1, 1) := fdd_d (by decide +kernel)
set_option maxRecDepth 100000 in
theorem xd_dec71a55 : decode (ia_code 72) 99 = .ok (.getfield 27, 3) := fdd_d (by decide +kernel)
set_option maxRecDepth 100000 in
theorem xf_24a164ab : wk_gf 72 27 33 9 (39 + 3) = true := by decide +kernel
set_option maxRecDepth 100000 in
theorem xd_a262ae13 : decode (ia_code 72) 102 = .ok (.iconst 0, 1) := fdd_d (by decide +kernel)
set_option maxRecDepth 100000 in
theorem xd_5d2560f6 : decode (ia_code 72) 103 = .ok (.aload_n 0, 1) := fdd_d (by decide +kernel)
set_option maxRecDepth 100000 in
theorem xd_8bfa0914 : decode (ia_code 72) 104 = .ok (.getfield 27, 3) := fdd_d (by decide +kernel)
set_option maxRecDepth 100000 in
theorem xf_da882b01 : wk_gf 72 27 49 9 (55 + 3) = true := by decide +kernel
set_option maxRecDepth 100000 in
theorem xd_e9eb59d3 : decode (ia_code 72) 107 = .ok (.iconst 0, 1) := fdd_d (by decide +kernel)
set_option maxRecDepth 100000 in
theorem xd_ad61e9a9 : decode (ia_code 72) 108 = .ok (.bipush 10, 2) := fdd_d (by decide +kernel)
set_option maxRecDepth 100000 in
theorem xd_752b4d77 : decode (ia_code 72) 110 = .ok (.invokestatic 51, 3) := fdd_d (by decide +kernel)
set_option maxRecDepth 100000 in
theorem xf_a36a912e : aw_cpf 55 39 10 16 = true := by decide +kernel
set_option maxRecDepth 100000 in
theorem xf_b7ff3d34 : sv_gr sg 55 = [] := by decide +kernel
set_option maxRecDepth 100000 in
theorem xd_2112c339 : decode (ia_code 72) 113 = .ok (.return_, 1) := fdd_d (by decide +kernel)
set_option maxRecDepth 100000 in
theorem xr_8cd0fd39 : ia_ret 72 = none := by decide +kernel
set_option maxRecDepth 100000 in
theorem xm_226784a6 : ia_maxL 72 = 2 := by decide +kernel
set_option maxRecDepth 100000 in
theorem xf_c912ceb2 : wk_pf 72 34 56 1 0 = true := by decide +kernel
set_option maxRecDepth 100000 in
theorem xg_b4e99a1e : sv_g sg 56 1 = sv_top := by decide +kernel
set_option maxRecDepth 100000 in
theorem xf_67d0dc55 : wk_pf 72 38 56 2 0 = true := by decide +kernel
set_option maxRecDepth 100000 in
theorem xg_5fde211d : sv_g sg 56 2 = sv_top := by decide +kernel
set_option maxRecDepth 100000 in
theorem xf_03995871 : wk_pf 72 41 56 3 0 = true := by decide +kernel
set_option maxRecDepth 100000 in
theorem xg_b01c4a23 : sv_g sg 56 3 = sv_top := by decide +kernel
set_option maxRecDepth 100000 in
theorem xf_9af9eca2 : wk_gf 72 9 56 4 (57 + 3) = true := by decide +kernel
set_option maxRecDepth 100000 in
theorem xf_97be2d1a : aw_cpf 57 34 6 16 = true := by decide +kernel
set_option maxRecDepth 100000 in
theorem xf_fa379c3f : sv_gr sg 57 = [] := by decide +kernel
set_option maxRecDepth 100000 in
theorem xf_76f17e1b : wk_gf 72 15 56 5 (58 + 3) = true := by decide +kernel
set_option maxRecDepth 100000 in
theorem xf_c4c293a5 : aw_cpf 58 35 6 16 = true := by decide +kernel
set_option maxRecDepth 100000 in
theorem xf_0b612eea : sv_gr sg 58 = [] := by decide +kernel
set_option maxRecDepth 100000 in
theorem xf_0a372dda : wk_gf 72 18 56 6 (59 + 3) = true := by decide +kernel
set_option maxRecDepth 100000 in
theorem xf_d7606efa : aw_cpf 59 36 6 16 = true := by decide +kernel
set_option maxRecDepth 100000 in
theorem xf_c03dfd4f : sv_gr sg 59 = [] := by decide +kernel
set_option maxRecDepth 100000 in
theorem xf_aeebb257 : wk_gf 72 21 56 7 (60 + 3) = true := by decide +kernel
set_option maxRecDepth 100000 in
theorem xf_dc7b5be4 : aw_cpf 60 37 4 16 = true := by decide +kernel
set_option maxRecDepth 100000 in
theorem xf_d6dab61a : sv_gr sg 60 = [] := by decide +kernel
set_option maxRecDepth 100000 in
theorem xf_fe76afc7 : wk_gf 72 24 56 8 (61 + 3) = true := by decide +kernel
set_option maxRecDepth 100000 in
theorem xf_0d0fa681 : aw_cpf 61 38 6 16 = true := by decide +kernel
set_option maxRecDepth 100000 in
theorem xf_1d8665bf : sv_gr sg 61 = [] := by decide +kernel
set_option maxRecDepth 100000 in
theorem xf_fd62a50a : wk_gf 72 27 56 9 (62 + 3) = true := by decide +kernel
set_option maxRecDepth 100000 in
theorem xf_697e3007 : aw_cpf 62 39 10 16 = true := by decide +kernel
set_option maxRecDepth 100000 in
theorem xf_9b121711 : sv_gr sg 62 = [] := by decide +kernel
set_option maxRecDepth 100000 in
theorem xf_ec7bd56c : wk_pf 72 34 63 1 0 = true := by decide +kernel
set_option maxRecDepth 100000 in
theorem xg_918081c0 : sv_g sg 63 1 = sv_top := by decide +kernel
set_option maxRecDepth 100000 in
theorem xf_42b9c78b : wk_pf 72 38 63 2 0 = true := by decide +kernel
set_option maxRecDepth 100000 in
theorem xg_7ab73ac3 : sv_g sg 63 2 = sv_top := by decide +kernel
set_option maxRecDepth 100000 in
theorem xf_26f043af : wk_pf 72 41 63 3 0 = true := by decide +kernel
set_option maxRecDepth 100000 in
theorem xg_957551fd : sv_g sg 63 3 = sv_top := by decide +kernel
set_option maxRecDepth 100000 in
theorem xf_ca7165c7 : wk_gf 72 9 63 4 (64 + 3) = true := by decide +kernel
set_option maxRecDepth 100000 in
theorem xf_edecc26c : aw_cpf 64 34 6 16 = true := by decide +kernel
set_option maxRecDepth 100000 in
theorem xf_4d4bf40c : sv_gr sg 64 = [] := by decide +kernel
set_option maxRecDepth 100000 in
theorem xf_dc9ffbce : wk_gf 72 15 63 5 (65 + 3) = true := by decide +kernel
set_option maxRecDepth 100000 in
theorem xf_9e128a78 : aw_cpf 65 35 6 16 = true := by decide +kernel
set_option maxRecDepth 100000 in
theorem xf_861727a9 : sv_gr sg 65 = [] := by decide +kernel
set_option maxRecDepth 100000 in
theorem xf_c0051d44 : wk_gf 72 18 63 6 (66 + 3) = true := by decide +kernel
set_option maxRecDepth 100000 in
theorem xf_0a105244 : aw_cpf 66 36 6 16 = true := by decide +kernel
set_option maxRecDepth 100000 in
theorem xf_00835507 : sv_gr sg 66 = [] := by decide +kernel
set_option maxRecDepth 100000 in
theorem xf_42bb747f : wk_gf 72 21 63 7 (67 + 3) = true := by decide +kernel
set_option maxRecDepth 100000 in
theorem xf_2182a391 : aw_cpf 67 37 4 16 = true := by decide +kernel
set_option maxRecDepth 100000 in
theorem xf_cbdf86a2 : sv_gr sg 67 = [] := by decide +kernel
set_option maxRecDepth 100000 in
theorem xf_e8c0655f : wk_gf 72 24 63 8 (68 + 3) = true := by decide +kernel
set_option maxRecDepth 100000 in
theorem xf_d074a85f : aw_cpf 68 38 6 16 = true := by decide +kernel
set_option maxRecDepth 100000 in
theorem xf_3a893477 : sv_gr sg 68 = [] := by decide +kernel
set_option maxRecDepth 100000 in
theorem xf_8b88dad9 : wk_gf 72 27 63 9 (69 + 3) = true := by decide +kernel
set_option maxRecDepth 100000 in
theorem xf_dcf4241d : aw_cpf 69 39 10 16 = true := by decide +kernel
set_option maxRecDepth 100000 in
theorem xf_f1d5e7d2 : sv_gr sg 69 = [] := by decide +kernel
set_option maxRecDepth 100000 in
theorem xf_4673de19 : wk_pf 72 34 70 1 0 = true := by decide +kernel
set_option maxRecDepth 100000 in
theorem xg_3b888ab5 : sv_g sg 70 1 = sv_top := by decide +kernel
set_option maxRecDepth 100000 in
theorem xf_e8b1ccfe : wk_pf 72 38 70 2 0 = true := by decide +kernel
set_option maxRecDepth 100000 in
theorem xg_d0bf31b6 : sv_g sg 70 2 = sv_top := by decide +kernel
set_option maxRecDepth 100000 in
theorem xf_8cf848da : wk_pf 72 41 70 3 0 = true := by decide +kernel
set_option maxRecDepth 100000 in
theorem xg_3f7d5a88 : sv_g sg 70 3 = sv_top := by decide +kernel
set_option maxRecDepth 100000 in
theorem xf_8c608a4d : wk_gf 72 9 70 4 (71 + 3) = true := by decide +kernel
set_option maxRecDepth 100000 in
theorem xf_1013d439 : aw_cpf 71 34 6 16 = true := by decide +kernel
set_option maxRecDepth 100000 in
theorem xf_bbf16e0b : sv_gr sg 71 = [] := by decide +kernel
set_option maxRecDepth 100000 in
theorem xf_fad2a10f : wk_gf 72 15 70 5 (72 + 3) = true := by decide +kernel
set_option maxRecDepth 100000 in
theorem xf_e44db94e : aw_cpf 72 35 6 16 = true := by decide +kernel
set_option maxRecDepth 100000 in
theorem xf_3d651ca5 : sv_gr sg 72 = [] := by decide +kernel
set_option maxRecDepth 100000 in
theorem xf_8614f2ce : wk_gf 72 18 70 6 (73 + 3) = true := by decide +kernel
set_option maxRecDepth 100000 in
theorem xf_f7ef4411 : aw_cpf 73 36 6 16 = true := by decide +kernel
set_option maxRecDepth 100000 in
theorem xf_f639cf00 : sv_gr sg 73 = [] := by decide +kernel
set_option maxRecDepth 100000 in
theorem xf_a44f4428 : wk_gf 72 21 70 7 (74 + 3) = true := by decide +kernel
set_option maxRecDepth 100000 in
theorem xf_8fecdc20 : aw_cpf 74 37 4 16 = true := by decide +kernel
set_option maxRecDepth 100000 in
theorem xf_eb3cffb8 : sv_gr sg 74 = [] := by decide +kernel
set_option maxRecDepth 100000 in
theorem xf_f4d259b8 : wk_gf 72 24 70 8 (75 + 3) = true := by decide +kernel
set_option maxRecDepth 100000 in
theorem xf_5e982145 : aw_cpf 75 38 6 16 = true := by decide +kernel
set_option maxRecDepth 100000 in
theorem xf_20602c1d : sv_gr sg 75 = [] := by decide +kernel
set_option maxRecDepth 100000 in
theorem xf_f7c65375 : wk_gf 72 27 70 9 (76 + 3) = true := by decide +kernel
set_option maxRecDepth 100000 in
theorem xf_f524a129 : aw_cpf 76 39 10 16 = true := by decide +kernel
set_option maxRecDepth 100000 in
theorem xf_a6f45eb3 : sv_gr sg 76 = [] := by decide +kernel
set_option maxRecDepth 100000 in
theorem xf_32eb3796 : wk_pf 72 34 77 1 0 = true := by decide +kernel
set_option maxRecDepth 100000 in
theorem xg_4f10633a : sv_g sg 77 1 = sv_top := by decide +kernel
set_option maxRecDepth 100000 in
theorem xf_9c292571 : wk_pf 72 38 77 2 0 = true := by decide +kernel
set_option maxRecDepth 100000 in
theorem xg_a427d839 : sv_g sg 77 2 = sv_top := by decide +kernel
set_option maxRecDepth 100000 in
theorem xf_f860a155 : wk_pf 72 41 77 3 0 = true := by decide +kernel
set_option maxRecDepth 100000 in
theorem xg_4be5b307 : sv_g sg 77 3 = sv_top := by decide +kernel
set_option maxRecDepth 100000 in
theorem xf_41cb0bee : wk_gf 72 9 77 4 (78 + 3) = true := by decide +kernel
set_option maxRecDepth 100000 in
theorem xf_cd68dae7 : aw_cpf 78 34 6 16 = true := by decide +kernel
set_option maxRecDepth 100000 in
theorem xf_9cfe3fc3 : sv_gr sg 78 = [] := by decide +kernel
set_option maxRecDepth 100000 in
theorem xf_572595e7 : wk_gf 72 15 77 5 (79 + 3) = true := by decide +kernel
set_option maxRecDepth 100000 in
theorem xf_be9692f3 : aw_cpf 79 35 6 16 = true := by decide +kernel
set_option maxRecDepth 100000 in
theorem xf_57a2ec66 : sv_gr sg 79 = [] := by decide +kernel
set_option maxRecDepth 100000 in
theorem xf_2774a1bd : wk_gf 72 18 77 6 (80 + 3) = true := by decide +kernel
set_option maxRecDepth 100000 in
theorem xf_18a5c336 : aw_cpf 80 36 6 16 = true := by decide +kernel
set_option maxRecDepth 100000 in
theorem xf_86e5cd47 : sv_gr sg 80 = [] := by decide +kernel
set_option maxRecDepth 100000 in
theorem xf_a5cac886 : wk_gf 72 21 77 7 (81 + 3) = true := by decide +kernel
set_option maxRecDepth 100000 in
theorem xf_333732e3 : aw_cpf 81 37 4 16 = true := by decide +kernel
set_option maxRecDepth 100000 in
theorem xf_4db91ee2 : sv_gr sg 81 = [] := by decide +kernel
set_option maxRecDepth 100000 in
theorem xf_950b605d : wk_gf 72 24 77 8 (82 + 3) = true := by decide +kernel
set_option maxRecDepth 100000 in
theorem xf_65e3eae5 : aw_cpf 82 38 6 16 = true := by decide +kernel
set_option maxRecDepth 100000 in
theorem xf_cb2d6c4c : sv_gr sg 82 = [] := by decide +kernel
set_option maxRecDepth 100000 in
theorem xf_f643dfdb : wk_gf 72 27 77 9 (83 + 3) = true := by decide +kernel
set_option maxRecDepth 100000 in
theorem xf_f7f5e9cd : aw_cpf 83 39 10 16 = true := by decide +kernel
set_option maxRecDepth 100000 in
theorem xf_0071bfe9 : sv_gr sg 83 = [] := by decide +kernel
set_option maxRecDepth 100000 in
theorem xf_62053053 : wk_pf 72 34 84 1 0 = true := by decide +kernel
set_option maxRecDepth 100000 in
theorem xg_1ffe64ff : sv_g sg 84 1 = sv_top := by decide +kernel
set_option maxRecDepth 100000 in
theorem xf_ccc722b4 : wk_pf 72 38 84 2 0 = true := by decide +kernel
set_option maxRecDepth 100000 in
theorem xg_f4c9dffc : sv_g sg 84 2 = sv_top := by decide +kernel
set_option maxRecDepth 100000 in
theorem xf_a88ea690 : wk_pf 72 41 84 3 0 = true := by decide +kernel
set_option maxRecDepth 100000 in
theorem xg_1b0bb4c2 : sv_g sg 84 3 = sv_top := by decide +kernel
set_option maxRecDepth 100000 in
theorem xf_8fba29ee : wk_gf 72 9 84 4 (85 + 3) = true := by decide +kernel
set_option maxRecDepth 100000 in
theorem xf_02a0ab6b : aw_cpf 85 34 6 16 = true := by decide +kernel
set_option maxRecDepth 100000 in
theorem xf_d6285cf4 : sv_gr sg 85 = [] := by decide +kernel
set_option maxRecDepth 100000 in
theorem xf_f90802ac : wk_gf 72 15 84 5 (86 + 3) = true := by decide +kernel
set_option maxRecDepth 100000 in
theorem xf_f6fec61c : aw_cpf 86 35 6 16 = true := by decide +kernel
set_option maxRecDepth 100000 in
theorem xf_50bc2e5a : sv_gr sg 86 = [] := by decide +kernel
set_option maxRecDepth 100000 in
theorem xf_85ce516d : wk_gf 72 18 84 6 (87 + 3) = true := by decide +kernel
set_option maxRecDepth 100000 in
theorem xf_e55c3b43 : aw_cpf 87 36 6 16 = true := by decide +kernel
set_option maxRecDepth 100000 in
theorem xf_9be0fdff : sv_gr sg 87 = [] := by decide +kernel
set_option maxRecDepth 100000 in
theorem xf_fd9634e6 : wk_gf 72 21 84 7 (88 + 3) = true := by decide +kernel
set_option maxRecDepth 100000 in
theorem xf_ee4c3c3d : aw_cpf 88 37 4 16 = true := by decide +kernel
set_option maxRecDepth 100000 in
theorem xf_6ab64f2a : sv_gr sg 88 = [] := by decide +kernel
set_option maxRecDepth 100000 in
theorem xf_ad0b2976 : wk_gf 72 24 84 8 (89 + 3) = true := by decide +kernel
set_option maxRecDepth 100000 in
theorem xf_3f38c158 : aw_cpf 89 38 6 16 = true := by decide +kernel
set_option maxRecDepth 100000 in
theorem xf_a1ea9c8f : sv_gr sg 89 = [] := by decide +kernel
set_option maxRecDepth 100000 in
theorem xf_094fa4eb : wk_gf 72 27 84 9 (90 + 3) = true := by decide +kernel
set_option maxRecDepth 100000 in
theorem xf_4b3d04a8 : aw_cpf 90 39 10 16 = true := by decide +kernel
set_option maxRecDepth 100000 in
theorem xf_2092c6f3 : sv_gr sg 90 = [] := by decide +kernel
set_option maxRecDepth 100000 in
theorem xf_27309ec6 : wk_pf 72 34 91 1 0 = true := by decide +kernel
set_option maxRecDepth 100000 in
theorem xg_5acbca6a : sv_g sg 91 1 = sv_top := by decide +kernel
set_option maxRecDepth 100000 in
theorem xf_89f28c21 : wk_pf 72 38 91 2 0 = true := by decide +kernel
set_option maxRecDepth 100000 in
theorem xg_b1fc7169 : sv_g sg 91 2 = sv_top := by decide +kernel
set_option maxRecDepth 100000 in
theorem xf_edbb0805 : wk_pf 72 41 91 3 0 = true := by decide +kernel
set_option maxRecDepth 100000 in
theorem xg_5e3e1a57 : sv_g sg 91 3 = sv_top := by decide +kernel
set_option maxRecDepth 100000 in
theorem xf_342b783c : wk_gf 72 9 91 4 (92 + 3) = true := by decide +kernel
set_option maxRecDepth 100000 in
theorem xf_78ff985d : aw_cpf 92 34 6 16 = true := by decide +kernel
set_option maxRecDepth 100000 in
theorem xf_6d5a67f8 : sv_gr sg 92 = [] := by decide +kernel
set_option maxRecDepth 100000 in
theorem xf_22c5e635 : wk_gf 72 15 91 5 (93 + 3) = true := by decide +kernel
set_option maxRecDepth 100000 in
theorem xf_0b01d049 : aw_cpf 93 35 6 16 = true := by decide +kernel
set_option maxRecDepth 100000 in
theorem xf_a606b45d : sv_gr sg 93 = [] := by decide +kernel
set_option maxRecDepth 100000 in
theorem xf_fee66a29 : wk_gf 72 18 91 6 (94 + 3) = true := by decide +kernel
set_option maxRecDepth 100000 in
theorem xf_4b3244f2 : aw_cpf 94 36 6 16 = true := by decide +kernel
set_option maxRecDepth 100000 in
theorem xf_bb0384e5 : sv_gr sg 94 = [] := by decide +kernel
set_option maxRecDepth 100000 in
theorem xf_7c580312 : wk_gf 72 21 91 7 (95 + 3) = true := by decide +kernel
set_option maxRecDepth 100000 in
theorem xf_60a0b527 : aw_cpf 95 37 4 16 = true := by decide +kernel
set_option maxRecDepth 100000 in
theorem xf_705f5740 : sv_gr sg 95 = [] := by decide +kernel
set_option maxRecDepth 100000 in
theorem xf_4c99abc9 : wk_gf 72 24 91 8 (96 + 3) = true := by decide +kernel
set_option maxRecDepth 100000 in
theorem xf_36746d21 : aw_cpf 96 38 6 16 = true := by decide +kernel
set_option maxRecDepth 100000 in
theorem xf_f6cb25ee : sv_gr sg 96 = [] := by decide +kernel
set_option maxRecDepth 100000 in
theorem xf_2fd1144f : wk_gf 72 27 91 9 (97 + 3) = true := by decide +kernel
set_option maxRecDepth 100000 in
theorem xf_6baf78e3 : aw_cpf 97 39 10 16 = true := by decide +kernel
set_option maxRecDepth 100000 in
theorem xf_3d97f64b : sv_gr sg 97 = [] := by decide +kernel
set_option maxRecDepth 100000 in
theorem xf_ba99a457 : wk_pf 72 34 98 1 0 = true := by decide +kernel
set_option maxRecDepth 100000 in
theorem xg_c762f0fb : sv_g sg 98 1 = sv_top := by decide +kernel
set_option maxRecDepth 100000 in
theorem xf_145bb6b0 : wk_pf 72 38 98 2 0 = true := by decide +kernel
set_option maxRecDepth 100000 in
theorem xg_2c554bf8 : sv_g sg 98 2 = sv_top := by decide +kernel
set_option maxRecDepth 100000 in
theorem xf_70123294 : wk_pf 72 41 98 3 0 = true := by decide +kernel
set_option maxRecDepth 100000 in
theorem xg_c39720c6 : sv_g sg 98 3 = sv_top := by decide +kernel
set_option maxRecDepth 100000 in
theorem xf_0da15a42 : wk_gf 72 9 98 4 (99 + 3) = true := by decide +kernel
set_option maxRecDepth 100000 in
theorem xf_2224b3e0 : aw_cpf 99 34 6 16 = true := by decide +kernel
set_option maxRecDepth 100000 in
theorem xf_079d973b : sv_gr sg 99 = [] := by decide +kernel
set_option maxRecDepth 100000 in
theorem xf_e0a7cdc0 : wk_gf 72 15 98 5 (100 + 3) = true := by decide +kernel
set_option maxRecDepth 100000 in
theorem xf_eb43c58e : aw_cpf 100 35 6 16 = true := by decide +kernel
set_option maxRecDepth 100000 in
theorem xf_078216cc : sv_gr sg 100 = [] := by decide +kernel
set_option maxRecDepth 100000 in
theorem xf_4c21c146 : wk_gf 72 18 98 6 (101 + 3) = true := by decide +kernel
set_option maxRecDepth 100000 in
theorem xf_f8e138d1 : aw_cpf 101 36 6 16 = true := by decide +kernel
set_option maxRecDepth 100000 in
theorem xf_ccdec569 : sv_gr sg 101 = [] := by decide +kernel
set_option maxRecDepth 100000 in
theorem xf_dd6d1bb3 : wk_gf 72 21 98 7 (102 + 3) = true := by decide +kernel
set_option maxRecDepth 100000 in
theorem xf_54d3ec67 : aw_cpf 102 37 4 16 = true := by decide +kernel
set_option maxRecDepth 100000 in
theorem xf_4a4ab7c7 : sv_gr sg 102 = [] := by decide +kernel
set_option maxRecDepth 100000 in
theorem xf_6dab2d19 : wk_gf 72 24 98 8 (103 + 3) = true := by decide +kernel
set_option maxRecDepth 100000 in
theorem xf_85a71102 : aw_cpf 103 38 6 16 = true := by decide +kernel
set_option maxRecDepth 100000 in
theorem xf_81166462 : sv_gr sg 103 = [] := by decide +kernel
set_option maxRecDepth 100000 in
theorem xf_896fa49d : wk_gf 72 27 98 9 (104 + 3) = true := by decide +kernel
set_option maxRecDepth 100000 in
theorem xf_6e4f6de5 : aw_cpf 104 39 10 16 = true := by decide +kernel
set_option maxRecDepth 100000 in
theorem xf_9c1354da : sv_gr sg 104 = [] := by decide +kernel
set_option maxRecDepth 100000 in
theorem xf_aa3efc47 : wk_gf 72 34 49 1 0 = true := by decide +kernel
set_option maxRecDepth 100000 in
theorem xf_f154667f : wk_pf 72 34 33 1 0 = true := by decide +kernel
set_option maxRecDepth 100000 in
theorem xg_8caf32d3 : sv_g sg 33 1 = sv_top := by decide +kernel
set_option maxRecDepth 100000 in
theorem xf_04fceea0 : wk_gf 72 38 49 2 0 = true := by decide +kernel
set_option maxRecDepth 100000 in
theorem xf_5f967498 : wk_pf 72 38 33 2 0 = true := by decide +kernel
set_option maxRecDepth 100000 in
theorem xg_679889d0 : sv_g sg 33 2 = sv_top := by decide +kernel
set_option maxRecDepth 100000 in
theorem xf_60b56a84 : wk_gf 72 41 49 3 0 = true := by decide +kernel
set_option maxRecDepth 100000 in
theorem xf_3bdff0bc : wk_pf 72 41 33 3 0 = true := by decide +kernel
set_option maxRecDepth 100000 in
theorem xg_885ae2ee : sv_g sg 33 3 = sv_top := by decide +kernel
set_option maxRecDepth 100000 in
theorem xf_21390fc0 : aw_cpf 34 50 6 16 = true := by decide +kernel
set_option maxRecDepth 100000 in
theorem xf_1f73dbab : sv_gr sg 34 = [] := by decide +kernel
set_option maxRecDepth 100000 in
theorem xf_52c747d4 : aw_cpf 35 51 6 16 = true := by decide +kernel
set_option maxRecDepth 100000 in
theorem xf_d42f080e : sv_gr sg 35 = [] := by decide +kernel
set_option maxRecDepth 100000 in
theorem xf_c6c59fe8 : aw_cpf 36 52 6 16 = true := by decide +kernel
set_option maxRecDepth 100000 in
theorem xf_52bb7aa0 : sv_gr sg 36 = [] := by decide +kernel
set_option maxRecDepth 100000 in
theorem xf_ed576e3d : aw_cpf 37 53 4 16 = true := by decide +kernel
set_option maxRecDepth 100000 in
theorem xf_99e7a905 : sv_gr sg 37 = [] := by decide +kernel
set_option maxRecDepth 100000 in
theorem xf_46a2b69e : aw_cpf 38 54 6 16 = true := by decide +kernel
set_option maxRecDepth 100000 in
theorem xf_68b11bd0 : sv_gr sg 38 = [] := by decide +kernel
set_option maxRecDepth 100000 in
theorem xf_30010025 : aw_cpf 39 55 10 16 = true := by decide +kernel
set_option maxRecDepth 100000 in
theorem xf_a3edc875 : sv_gr sg 39 = [] := by decide +kernel
set_option maxRecDepth 100000 in
theorem xf_053cbab3 : wk_gf 72 34 56 1 0 = true := by decide +kernel
set_option maxRecDepth 100000 in
theorem xf_abfea854 : wk_gf 72 38 56 2 0 = true := by decide +kernel
set_option maxRecDepth 100000 in
theorem xf_cfb72c70 : wk_gf 72 41 56 3 0 = true := by decide +kernel
set_option maxRecDepth 100000 in
theorem xf_5c4a0998 : aw_cpf 34 57 6 16 = true := by decide +kernel
set_option maxRecDepth 100000 in
theorem xf_d5524d3c : aw_cpf 35 58 6 16 = true := by decide +kernel
set_option maxRecDepth 100000 in
theorem xf_210c204b : aw_cpf 36 59 6 16 = true := by decide +kernel
set_option maxRecDepth 100000 in
theorem xf_2cfc2728 : aw_cpf 37 60 4 16 = true := by decide +kernel
set_option maxRecDepth 100000 in
theorem xf_27ec2056 : aw_cpf 38 61 6 16 = true := by decide +kernel
set_option maxRecDepth 100000 in
theorem xf_44b1c09c : aw_cpf 39 62 10 16 = true := by decide +kernel
set_option maxRecDepth 100000 in
theorem xf_2055a16d : wk_gf 72 34 63 1 0 = true := by decide +kernel
set_option maxRecDepth 100000 in
theorem xf_8e97b38a : wk_gf 72 38 63 2 0 = true := by decide +kernel
set_option maxRecDepth 100000 in
theorem xf_eade37ae : wk_gf 72 41 63 3 0 = true := by decide +kernel
set_option maxRecDepth 100000 in
theorem xf_9de1408d : aw_cpf 34 64 6 16 = true := by decide +kernel
set_option maxRecDepth 100000 in
theorem xf_ee1f0899 : aw_cpf 35 65 6 16 = true := by decide +kernel
set_option maxRecDepth 100000 in
theorem xf_7a1dd0a5 : aw_cpf 36 66 6 16 = true := by decide +kernel
set_option maxRecDepth 100000 in
theorem xf_518f2170 : aw_cpf 37 67 4 16 = true := by decide +kernel
set_option maxRecDepth 100000 in
theorem xf_a0792abe : aw_cpf 38 68 6 16 = true := by decide +kernel
set_option maxRecDepth 100000 in
theorem xf_0b89fb71 : aw_cpf 39 69 10 16 = true := by decide +kernel
set_option maxRecDepth 100000 in
theorem xf_8a5daa18 : wk_gf 72 34 70 1 0 = true := by decide +kernel
set_option maxRecDepth 100000 in
theorem xf_249fb8ff : wk_gf 72 38 70 2 0 = true := by decide +kernel
set_option maxRecDepth 100000 in
theorem xf_40d63cdb : wk_gf 72 41 70 3 0 = true := by decide +kernel
set_option maxRecDepth 100000 in
theorem xf_1dc112e8 : aw_cpf 34 71 6 16 = true := by decide +kernel
set_option maxRecDepth 100000 in
theorem xf_0e63efb7 : aw_cpf 35 72 6 16 = true := by decide +kernel
set_option maxRecDepth 100000 in
theorem xf_fa3d82c0 : aw_cpf 36 73 6 16 = true := by decide +kernel
set_option maxRecDepth 100000 in
theorem xf_714aacc8 : aw_cpf 37 74 4 16 = true := by decide +kernel
set_option maxRecDepth 100000 in
theorem xf_7a5aabb6 : aw_cpf 38 75 6 16 = true := by decide +kernel
set_option maxRecDepth 100000 in
theorem xf_e4e6946f : aw_cpf 39 76 10 16 = true := by decide +kernel
set_option maxRecDepth 100000 in
theorem xf_fec54397 : wk_gf 72 34 77 1 0 = true := by decide +kernel
set_option maxRecDepth 100000 in
theorem xf_50075170 : wk_gf 72 38 77 2 0 = true := by decide +kernel
set_option maxRecDepth 100000 in
theorem xf_344ed554 : wk_gf 72 41 77 3 0 = true := by decide +kernel
set_option maxRecDepth 100000 in
theorem xf_9a541800 : aw_cpf 34 78 6 16 = true := by decide +kernel
set_option maxRecDepth 100000 in
theorem xf_e9aa5014 : aw_cpf 35 79 6 16 = true := by decide +kernel
set_option maxRecDepth 100000 in
theorem xf_11635af8 : aw_cpf 36 80 6 16 = true := by decide +kernel
set_option maxRecDepth 100000 in
theorem xf_3af1ab2d : aw_cpf 37 81 4 16 = true := by decide +kernel
set_option maxRecDepth 100000 in
theorem xf_51bd1918 : aw_cpf 38 82 6 16 = true := by decide +kernel
set_option maxRecDepth 100000 in
theorem xf_34cd399f : aw_cpf 39 83 10 16 = true := by decide +kernel
set_option maxRecDepth 100000 in
theorem xf_ae2b4452 : wk_gf 72 34 84 1 0 = true := by decide +kernel
set_option maxRecDepth 100000 in
theorem xf_00e956b5 : wk_gf 72 38 84 2 0 = true := by decide +kernel
set_option maxRecDepth 100000 in
theorem xf_64a0d291 : wk_gf 72 41 84 3 0 = true := by decide +kernel
set_option maxRecDepth 100000 in
theorem xf_8beccc88 : aw_cpf 34 85 6 16 = true := by decide +kernel
set_option maxRecDepth 100000 in
theorem xf_984e31d7 : aw_cpf 35 86 6 16 = true := by decide +kernel
set_option maxRecDepth 100000 in
theorem xf_6c105ca0 : aw_cpf 36 87 6 16 = true := by decide +kernel
set_option maxRecDepth 100000 in
theorem xf_bd64a1c5 : aw_cpf 37 88 4 16 = true := by decide +kernel
set_option maxRecDepth 100000 in
theorem xf_b674a6bb : aw_cpf 38 89 6 16 = true := by decide +kernel
set_option maxRecDepth 100000 in
theorem xf_f157c7ac : aw_cpf 39 90 10 16 = true := by decide +kernel
set_option maxRecDepth 100000 in
theorem xf_eb1eeac7 : wk_gf 72 34 91 1 0 = true := by decide +kernel
set_option maxRecDepth 100000 in
theorem xf_45dcf820 : wk_gf 72 38 91 2 0 = true := by decide +kernel
set_option maxRecDepth 100000 in
theorem xf_21957c04 : wk_gf 72 41 91 3 0 = true := by decide +kernel
set_option maxRecDepth 100000 in
theorem xf_6b902ba6 : aw_cpf 34 92 6 16 = true := by decide +kernel
set_option maxRecDepth 100000 in
theorem xf_186e63b2 : aw_cpf 35 93 6 16 = true := by decide +kernel
set_option maxRecDepth 100000 in
theorem xf_4cd5d118 : aw_cpf 36 94 6 16 = true := by decide +kernel
set_option maxRecDepth 100000 in
theorem xf_674720cd : aw_cpf 37 95 4 16 = true := by decide +kernel
set_option maxRecDepth 100000 in
theorem xf_0c0b92f8 : aw_cpf 38 96 6 16 = true := by decide +kernel
set_option maxRecDepth 100000 in
theorem xf_949a6d6c : aw_cpf 39 97 10 16 = true := by decide +kernel
set_option maxRecDepth 100000 in
theorem xf_76b7d056 : wk_gf 72 34 98 1 0 = true := by decide +kernel
set_option maxRecDepth 100000 in
theorem xf_d875c2b1 : wk_gf 72 38 98 2 0 = true := by decide +kernel
set_option maxRecDepth 100000 in
theorem xf_bc3c4695 : wk_gf 72 41 98 3 0 = true := by decide +kernel
set_option maxRecDepth 100000 in
theorem xf_8c599405 : aw_cpf 34 99 6 16 = true := by decide +kernel
set_option maxRecDepth 100000 in
theorem xf_60c9ae70 : aw_cpf 35 100 6 16 = true := by decide +kernel
set_option maxRecDepth 100000 in
theorem xf_eec52c71 : aw_cpf 36 101 6 16 = true := by decide +kernel
set_option maxRecDepth 100000 in
theorem xf_8cc5323d : aw_cpf 37 102 4 16 = true := by decide +kernel
set_option maxRecDepth 100000 in
theorem xf_cfbd61ac : aw_cpf 38 103 6 16 = true := by decide +kernel
set_option maxRecDepth 100000 in
theorem xf_68697866 : aw_cpf 39 104 10 16 = true := by decide +kernel
set_option maxRecDepth 100000 in
theorem xf_4e6c4647 : wk_pf 72 34 145 1 0 = true := by decide +kernel
set_option maxRecDepth 100000 in
theorem xg_ace9df29 : sv_g sg 145 1 = sv_top := by decide +kernel
set_option maxRecDepth 100000 in
theorem xf_02792e8c : wk_pf 72 38 145 2 0 = true := by decide +kernel
set_option maxRecDepth 100000 in
theorem xg_47de642a : sv_g sg 145 2 = sv_top := by decide +kernel
set_option maxRecDepth 100000 in
theorem xf_10523727 : wk_pf 72 41 145 3 0 = true := by decide +kernel
set_option maxRecDepth 100000 in
theorem xg_a81c0f14 : sv_g sg 145 3 = sv_top := by decide +kernel
set_option maxRecDepth 100000 in
theorem xf_5eb37c2d : wk_gf 72 9 145 4 (146 + 3) = true := by decide +kernel
set_option maxRecDepth 100000 in
theorem xf_164c5220 : aw_cpf 146 34 6 16 = true := by decide +kernel
set_option maxRecDepth 100000 in
theorem xf_2594d1c2 : sv_gr sg 146 = [] := by decide +kernel
set_option maxRecDepth 100000 in
theorem xf_c41b5b1d : wk_gf 72 15 145 5 (147 + 3) = true := by decide +kernel
set_option maxRecDepth 100000 in
theorem xf_65b21a34 : aw_cpf 147 35 6 16 = true := by decide +kernel
set_option maxRecDepth 100000 in
theorem xf_eec80267 : sv_gr sg 147 = [] := by decide +kernel
set_option maxRecDepth 100000 in
theorem xf_33c3948c : wk_gf 72 18 145 6 (148 + 3) = true := by decide +kernel
set_option maxRecDepth 100000 in
theorem xf_569211c0 : aw_cpf 148 36 6 16 = true := by decide +kernel
set_option maxRecDepth 100000 in
theorem xf_1f9eb0b2 : sv_gr sg 148 = [] := by decide +kernel
set_option maxRecDepth 100000 in
theorem xf_67c21422 : wk_gf 72 21 145 7 (149 + 3) = true := by decide +kernel
set_option maxRecDepth 100000 in
theorem xf_7d00e015 : aw_cpf 149 37 4 16 = true := by decide +kernel
set_option maxRecDepth 100000 in
theorem xf_d4c26317 : sv_gr sg 149 = [] := by decide +kernel
set_option maxRecDepth 100000 in
theorem xf_6304a0ac : wk_gf 72 24 145 8 (150 + 3) = true := by decide +kernel
set_option maxRecDepth 100000 in
theorem xf_58c1497c : aw_cpf 150 38 6 16 = true := by decide +kernel
set_option maxRecDepth 100000 in
theorem xf_55ba396b : sv_gr sg 150 = [] := by decide +kernel
set_option maxRecDepth 100000 in
theorem xf_09de66e0 : wk_gf 72 27 145 9 (151 + 3) = true := by decide +kernel
set_option maxRecDepth 100000 in
theorem xf_7e1be08e : aw_cpf 151 39 10 16 = true := by decide +kernel
set_option maxRecDepth 100000 in
theorem xf_9ee6eace : sv_gr sg 151 = [] := by decide +kernel
set_option maxRecDepth 100000 in
theorem xf_873ec306 : wk_pf 72 34 172 1 0 = true := by decide +kernel
set_option maxRecDepth 100000 in
theorem xg_65bb5a68 : sv_g sg 172 1 = sv_top := by decide +kernel
set_option maxRecDepth 100000 in
theorem xf_cb2babcd : wk_pf 72 38 172 2 0 = true := by decide +kernel
set_option maxRecDepth 100000 in
theorem xg_8e8ce16b : sv_g sg 172 2 = sv_top := by decide +kernel
set_option maxRecDepth 100000 in
theorem xf_d900b266 : wk_pf 72 41 172 3 0 = true := by decide +kernel
set_option maxRecDepth 100000 in
theorem xg_614e8a55 : sv_g sg 172 3 = sv_top := by decide +kernel
set_option maxRecDepth 100000 in
theorem xf_a5a7ce95 : wk_gf 72 9 172 4 (173 + 3) = true := by decide +kernel
set_option maxRecDepth 100000 in
theorem xf_3f8fd4b2 : aw_cpf 173 34 6 16 = true := by decide +kernel
set_option maxRecDepth 100000 in
theorem xf_44b15aec : sv_gr sg 173 = [] := by decide +kernel
set_option maxRecDepth 100000 in
theorem xf_9fea3678 : wk_gf 72 15 172 5 (174 + 3) = true := by decide +kernel
set_option maxRecDepth 100000 in
theorem xf_1fe0f542 : aw_cpf 174 35 6 16 = true := by decide +kernel
set_option maxRecDepth 100000 in
theorem xf_59b46a54 : sv_gr sg 174 = [] := by decide +kernel
set_option maxRecDepth 100000 in
theorem xf_92d4f559 : wk_gf 72 18 172 6 (175 + 3) = true := by decide +kernel
set_option maxRecDepth 100000 in
theorem xf_0c42081d : aw_cpf 175 36 6 16 = true := by decide +kernel
set_option maxRecDepth 100000 in
theorem xf_92e8b9f1 : sv_gr sg 175 = [] := by decide +kernel
set_option maxRecDepth 100000 in
theorem xf_a689c0bc : wk_gf 72 21 172 7 (176 + 3) = true := by decide +kernel
set_option maxRecDepth 100000 in
theorem xf_a070dcab : aw_cpf 176 37 4 16 = true := by decide +kernel
set_option maxRecDepth 100000 in
theorem xf_147ccb5f : sv_gr sg 176 = [] := by decide +kernel
set_option maxRecDepth 100000 in
theorem xf_65434629 : wk_gf 72 24 172 8 (177 + 3) = true := by decide +kernel
set_option maxRecDepth 100000 in
theorem xf_710421ce : aw_cpf 177 38 6 16 = true := by decide +kernel
set_option maxRecDepth 100000 in
theorem xf_df2018fa : sv_gr sg 177 = [] := by decide +kernel
set_option maxRecDepth 100000 in
theorem xf_f57f8cd5 : wk_gf 72 27 172 9 (178 + 3) = true := by decide +kernel
set_option maxRecDepth 100000 in
theorem xf_1a790fd0 : aw_cpf 178 39 10 16 = true := by decide +kernel
set_option maxRecDepth 100000 in
theorem xf_2e76aa2f : sv_gr sg 178 = [] := by decide +kernel
set_option maxRecDepth 100000 in
theorem xf_39a758a5 : wk_gf 72 34 145 1 0 = true := by decide +kernel
set_option maxRecDepth 100000 in
theorem xf_75b2306e : wk_gf 72 38 145 2 0 = true := by decide +kernel
set_option maxRecDepth 100000 in
theorem xf_679929c5 : wk_gf 72 41 145 3 0 = true := by decide +kernel
set_option maxRecDepth 100000 in
theorem xf_5e2635f5 : aw_cpf 34 146 6 16 = true := by decide +kernel
set_option maxRecDepth 100000 in
theorem xf_04162733 : aw_cpf 35 147 6 16 = true := by decide +kernel
set_option maxRecDepth 100000 in
theorem xf_70fca982 : aw_cpf 36 148 6 16 = true := by decide +kernel
set_option maxRecDepth 100000 in
theorem xf_72a00285 : aw_cpf 37 149 4 16 = true := by decide +kernel
set_option maxRecDepth 100000 in
theorem xf_f6d4630f : aw_cpf 38 150 6 16 = true := by decide +kernel
set_option maxRecDepth 100000 in
theorem xf_df4da880 : aw_cpf 39 151 10 16 = true := by decide +kernel
set_option maxRecDepth 100000 in
theorem xf_f0f5dde4 : wk_gf 72 34 172 1 0 = true := by decide +kernel
set_option maxRecDepth 100000 in
theorem xf_bce0b52f : wk_gf 72 38 172 2 0 = true := by decide +kernel
set_option maxRecDepth 100000 in
theorem xf_aecbac84 : wk_gf 72 41 172 3 0 = true := by decide +kernel
set_option maxRecDepth 100000 in
theorem xf_3f68a33d : aw_cpf 34 173 6 16 = true := by decide +kernel
set_option maxRecDepth 100000 in
theorem xf_c5bd6e26 : aw_cpf 35 174 6 16 = true := by decide +kernel
set_option maxRecDepth 100000 in
theorem xf_4bb1ec27 : aw_cpf 36 175 6 16 = true := by decide +kernel
set_option maxRecDepth 100000 in
theorem xf_29b1f26b : aw_cpf 37 176 4 16 = true := by decide +kernel
set_option maxRecDepth 100000 in
theorem xf_6ac9a1fa : aw_cpf 38 177 6 16 = true := by decide +kernel
set_option maxRecDepth 100000 in
theorem xf_d99de651 : aw_cpf 39 178 10 16 = true := by decide +kernel
set_option maxRecDepth 100000 in
theorem xg_07bca462 : sv_g sg 47 1 = (2147483648, 2147483655) := by decide +kernel
set_option maxRecDepth 100000 in
theorem xg_2e4ff086 : sv_g sg 47 2 = (2147483648, 2147483656) := by decide +kernel
set_option maxRecDepth 100000 in
theorem xm_dd8ff9bd : ia_maxL 55 = 2 := by decide +kernel
set_option maxRecDepth 100000 in
theorem xd_f7dca9a0 : decode (ia_code 55) 0 = .ok (.aload_n 0, 1) := fdd_d (by decide +kernel)
set_option maxRecDepth 100000 in
theorem xd_e7acc883 : decode (ia_code 55) 1 = .ok (.getfield 11, 3) := fdd_d (by decide +kernel)
set_option maxRecDepth 100000 in
theorem xf_2a6eec38 : wk_gf 55 11 47 0 (48 + 3) = true := by decide +kernel
set_option maxRecDepth 100000 in
theorem xd_f7800833 : decode (ia_code 55) 4 = .ok (.aload_n 0, 1) := fdd_d (by decide +kernel)
set_option maxRecDepth 100000 in
theorem xd_dd258a06 : decode (ia_code 55) 5 = .ok (.getfield 22, 3) := fdd_d (by decide +kernel)
set_option maxRecDepth 100000 in
theorem xf_5a0766af : wk_gf 55 22 47 1 0 = true := by decide +kernel
set_option maxRecDepth 100000 in
theorem xd_d2cccd0e : decode (ia_code 55) 8 = .ok (.aaload, 1) := fdd_d (by decide +kernel)
set_option maxRecDepth 100000 in
theorem xf_5beb2906 : aw_aar 48 55 0 49 = true := by decide +kernel
set_option maxRecDepth 100000 in
theorem xd_517629e2 : decode (ia_code 55) 9 = .ok (.aload_n 1, 1) := fdd_d (by decide +kernel)
set_option maxRecDepth 100000 in
theorem xl_2cc9ab70 : ia_pl (ia_cls 55) 25 = some (1, 72, 0, 0, 921) := by decide +kernel
set_option maxRecDepth 100000 in
theorem xn_437ab768 : ia_na 72 = 2 := by decide +kernel
set_option maxRecDepth 100000 in
theorem xc_33cf4b98 : ia_mc 72 = 0 ∧ ia_ms 72 = 0 := ⟨by decide +kernel, by decide +kernel⟩
set_option maxRecDepth 100000 in
theorem xv_5fd24db5 : cm_rcv 72 [.inr (.inr (some 49))] = true := by decide +kernel
set_option maxRecDepth 100000 in
theorem xd_fe2acab3 : decode (ia_code 55) 10 = .ok (.invokevirtual 25, 3) := fdd_d (by decide +kernel)
set_option maxRecDepth 100000 in
theorem xd_28ac9b37 : decode (ia_code 55) 13 = .ok (.aload_n 0, 1) := fdd_d (by decide +kernel)
set_option maxRecDepth 100000 in
theorem xd_5e150399 : decode (ia_code 55) 14 = .ok (.aload_n 0, 1) := fdd_d (by decide +kernel)
set_option maxRecDepth 100000 in
theorem xd_1e1fae78 : decode (ia_code 55) 15 = .ok (.getfield 22, 3) := fdd_d (by decide +kernel)
set_option maxRecDepth 100000 in
theorem xd_eb4935e1 : decode (ia_code 55) 18 = .ok (.iconst 1, 1) := fdd_d (by decide +kernel)
set_option maxRecDepth 100000 in
theorem xd_2d2201d1 : decode (ia_code 55) 19 = .ok (.iadd, 1) := fdd_d (by decide +kernel)
set_option maxRecDepth 100000 in
theorem xd_c9a11797 : decode (ia_code 55) 20 = .ok (.bipush 8, 2) := fdd_d (by decide +kernel)
set_option maxRecDepth 100000 in
theorem xd_e3d9c391 : decode (ia_code 55) 22 = .ok (.irem, 1) := fdd_d (by decide +kernel)
set_option maxRecDepth 100000 in
theorem xd_3e42831f : decode (ia_code 55) 23 = .ok (.putfield 22, 3) := fdd_d (by decide +kernel)
set_option maxRecDepth 100000 in
theorem xf_962912ae : wk_pf 55 22 47 1 0 = true := by decide +kernel
set_option maxRecDepth 100000 in
theorem xd_eb9d7958 : decode (ia_code 55) 26 = .ok (.aload_n 0, 1) := fdd_d (by decide +kernel)
set_option maxRecDepth 100000 in
theorem xd_ac7829d7 : decode (ia_code 55) 27 = .ok (.bipush 8, 2) := fdd_d (by decide +kernel)
set_option maxRecDepth 100000 in
theorem xd_9d9da2d0 : decode (ia_code 55) 29 = .ok (.aload_n 0, 1) := fdd_d (by decide +kernel)
set_option maxRecDepth 100000 in
theorem xd_994755ed : decode (ia_code 55) 30 = .ok (.getfield 18, 3) := fdd_d (by decide +kernel)
set_option maxRecDepth 100000 in
theorem xf_fff71448 : wk_gf 55 18 47 2 0 = true := by decide +kernel
set_option maxRecDepth 100000 in
theorem xd_86e46d48 : decode (ia_code 55) 33 = .ok (.iconst 1, 1) := fdd_d (by decide +kernel)
set_option maxRecDepth 100000 in
theorem xd_aa3dc8cb : decode (ia_code 55) 34 = .ok (.iadd, 1) := fdd_d (by decide +kernel)
set_option maxRecDepth 100000 in
theorem xd_0fad57b4 : decode (ia_code 55) 35 = .ok (.invokestatic 29, 3) := fdd_d (by decide +kernel)
set_option maxRecDepth 100000 in
theorem xl_1bb8cf01 : ia_pl (ia_cls 55) 29 = some (7, 0, 0, 0, 926) := by decide +kernel
set_option maxRecDepth 100000 in
theorem xd_0c9d6a63 : decode (ia_code 55) 38 = .ok (.putfield 18, 3) := fdd_d (by decide +kernel)
set_option maxRecDepth 100000 in
theorem xf_33d96049 : wk_pf 55 18 47 2 0 = true := by decide +kernel
set_option maxRecDepth 100000 in
theorem xd_a22181cc : decode (ia_code 55) 41 = .ok (.return_, 1) := fdd_d (by decide +kernel)
set_option maxRecDepth 100000 in
theorem xr_a8e3dca6 : ia_ret 55 = none := by decide +kernel
set_option maxRecDepth 100000 in
theorem xf_543ef029 : aw_aar 48 55 1 56 = true := by decide +kernel
set_option maxRecDepth 100000 in
theorem xv_578ff51c : cm_rcv 72 [.inr (.inr (some 56))] = true := by decide +kernel
set_option maxRecDepth 100000 in
theorem xf_bcb1a489 : aw_aar 48 55 2 63 = true := by decide +kernel
set_option maxRecDepth 100000 in
theorem xv_51468bae : cm_rcv 72 [.inr (.inr (some 63))] = true := by decide +kernel
set_option maxRecDepth 100000 in
theorem xf_e4cb68e9 : aw_aar 48 55 3 70 = true := by decide +kernel
set_option maxRecDepth 100000 in
theorem xv_5301a1c0 : cm_rcv 72 [.inr (.inr (some 70))] = true := by decide +kernel
set_option maxRecDepth 100000 in
theorem xf_c7357473 : aw_aar 48 55 4 77 = true := by decide +kernel
set_option maxRecDepth 100000 in
theorem xv_7a3ab443 : cm_rcv 72 [.inr (.inr (some 77))] = true := by decide +kernel
set_option maxRecDepth 100000 in
theorem xf_578d6381 : aw_aar 48 55 5 84 = true := by decide +kernel
set_option maxRecDepth 100000 in
theorem xv_914c4d33 : cm_rcv 72 [.inr (.inr (some 84))] = true := by decide +kernel
set_option maxRecDepth 100000 in
theorem xf_91f41fa7 : aw_aar 48 55 6 91 = true := by decide +kernel
set_option maxRecDepth 100000 in
theorem xv_7bbead1e : cm_rcv 72 [.inr (.inr (some 91))] = true := by decide +kernel
set_option maxRecDepth 100000 in
theorem xf_4f35db4c : aw_aar 48 55 7 98 = true := by decide +kernel
set_option maxRecDepth 100000 in
theorem xv_00f3939b : cm_rcv 72 [.inr (.inr (some 98))] = true := by decide +kernel
set_option maxRecDepth 100000 in
theorem xm_e0efd00d : ia_maxL 54 = 2 := by decide +kernel
set_option maxRecDepth 100000 in
theorem xd_10c10f37 : decode (ia_code 54) 0 = .ok (.aload_n 0, 1) := fdd_d (by decide +kernel)
set_option maxRecDepth 100000 in
theorem xd_eb0957ef : decode (ia_code 54) 1 = .ok (.getfield 18, 3) := fdd_d (by decide +kernel)
set_option maxRecDepth 100000 in
theorem xf_10a5a2a9 : wk_gf 54 18 47 2 0 = true := by decide +kernel
set_option maxRecDepth 100000 in
theorem xd_e259a194 : decode (ia_code 54) 4 = .ok (.ifCond .ne 5, 3) := fdd_d (by decide +kernel)
set_option maxRecDepth 100000 in
theorem xd_8b0ba6c5 : decode (ia_code 54) 9 = .ok (.aload_n 0, 1) := fdd_d (by decide +kernel)
set_option maxRecDepth 100000 in
theorem xd_30c5b94b : decode (ia_code 54) 10 = .ok (.aload_n 0, 1) := fdd_d (by decide +kernel)
set_option maxRecDepth 100000 in
theorem xd_86a53da7 : decode (ia_code 54) 11 = .ok (.getfield 22, 3) := fdd_d (by decide +kernel)
set_option maxRecDepth 100000 in
theorem xf_b555d04e : wk_gf 54 22 47 1 0 = true := by decide +kernel
set_option maxRecDepth 100000 in
theorem xd_04f81b3d : decode (ia_code 54) 14 = .ok (.bipush 8, 2) := fdd_d (by decide +kernel)
set_option maxRecDepth 100000 in
theorem xd_cc75c179 : decode (ia_code 54) 16 = .ok (.iadd, 1) := fdd_d (by decide +kernel)
set_option maxRecDepth 100000 in
theorem xd_d0ce8b36 : decode (ia_code 54) 17 = .ok (.iconst 1, 1) := fdd_d (by decide +kernel)
set_option maxRecDepth 100000 in
theorem xd_62d37a89 : decode (ia_code 54) 18 = .ok (.isub, 1) := fdd_d (by decide +kernel)
set_option maxRecDepth 100000 in
theorem xd_f632cafd : decode (ia_code 54) 19 = .ok (.bipush 8, 2) := fdd_d (by decide +kernel)
set_option maxRecDepth 100000 in
theorem xd_1e777a33 : decode (ia_code 54) 21 = .ok (.irem, 1) := fdd_d (by decide +kernel)
set_option maxRecDepth 100000 in
theorem xd_f8ceca35 : decode (ia_code 54) 22 = .ok (.putfield 22, 3) := fdd_d (by decide +kernel)
set_option maxRecDepth 100000 in
theorem xf_797ba44f : wk_pf 54 22 47 1 0 = true := by decide +kernel
set_option maxRecDepth 100000 in
theorem xd_ce947294 : decode (ia_code 54) 25 = .ok (.aload_n 1, 1) := fdd_d (by decide +kernel)
set_option maxRecDepth 100000 in
theorem xd_85116219 : decode (ia_code 54) 26 = .ok (.aload_n 0, 1) := fdd_d (by decide +kernel)
set_option maxRecDepth 100000 in
theorem xd_de1db487 : decode (ia_code 54) 27 = .ok (.getfield 11, 3) := fdd_d (by decide +kernel)
set_option maxRecDepth 100000 in
theorem xf_8fe57c36 : wk_gf 54 11 47 0 (48 + 3) = true := by decide +kernel
set_option maxRecDepth 100000 in
theorem xd_e9fe7544 : decode (ia_code 54) 30 = .ok (.aload_n 0, 1) := fdd_d (by decide +kernel)
set_option maxRecDepth 100000 in
theorem xd_93ef76c8 : decode (ia_code 54) 31 = .ok (.getfield 22, 3) := fdd_d (by decide +kernel)
set_option maxRecDepth 100000 in
theorem xd_88805a71 : decode (ia_code 54) 34 = .ok (.aaload, 1) := fdd_d (by decide +kernel)
set_option maxRecDepth 100000 in
theorem xl_222e43a1 : ia_pl (ia_cls 54) 25 = some (1, 72, 0, 0, 921) := by decide +kernel
set_option maxRecDepth 100000 in
theorem xv_c9e5fcbe : cm_rcv 72 [.inr (.inr (some 33))] = true := by decide +kernel
set_option maxRecDepth 100000 in
theorem xd_0a84250f : decode (ia_code 54) 35 = .ok (.invokevirtual 25, 3) := fdd_d (by decide +kernel)
set_option maxRecDepth 100000 in
theorem xd_e9473662 : decode (ia_code 54) 38 = .ok (.aload_n 0, 1) := fdd_d (by decide +kernel)
set_option maxRecDepth 100000 in
theorem xd_ce75e612 : decode (ia_code 54) 39 = .ok (.dup, 1) := fdd_d (by decide +kernel)
set_option maxRecDepth 100000 in
theorem xd_2283f7ef : decode (ia_code 54) 40 = .ok (.getfield 18, 3) := fdd_d (by decide +kernel)
set_option maxRecDepth 100000 in
theorem xd_17405371 : decode (ia_code 54) 43 = .ok (.iconst 1, 1) := fdd_d (by decide +kernel)
set_option maxRecDepth 100000 in
theorem xd_40a08e39 : decode (ia_code 54) 44 = .ok (.isub, 1) := fdd_d (by decide +kernel)
set_option maxRecDepth 100000 in
theorem xd_c5648123 : decode (ia_code 54) 45 = .ok (.putfield 18, 3) := fdd_d (by decide +kernel)
set_option maxRecDepth 100000 in
theorem xf_dc8bd6a8 : wk_pf 54 18 47 2 0 = true := by decide +kernel
set_option maxRecDepth 100000 in
theorem xd_977bd831 : decode (ia_code 54) 48 = .ok (.iconst 1, 1) := fdd_d (by decide +kernel)
set_option maxRecDepth 100000 in
theorem xd_301efa5e : decode (ia_code 54) 49 = .ok (.ireturn, 1) := fdd_d (by decide +kernel)
set_option maxRecDepth 100000 in
theorem xr_73896da5 : ia_ret 54 = some .boolean := by decide +kernel
set_option maxRecDepth 100000 in
theorem xd_869d6df3 : decode (ia_code 54) 7 = .ok (.iconst 0, 1) := fdd_d (by decide +kernel)
set_option maxRecDepth 100000 in
theorem xd_bcd30f50 : decode (ia_code 54) 8 = .ok (.ireturn, 1) := fdd_d (by decide +kernel)
/-- a state's store c is that of the valley v: as many portions as there can be -/
def jL (c v : Nat) (w : cm_W) : Prop := ∀ f : Nat, f < 4 → (f : Int) < (w.1 v 4).toInt → 0 ≤ (w.1 c f).toInt ∧ (w.1 c f).toInt ≤ 5
theorem jL_eq {c v c' : Nat} {w w' : cm_W} (h1 : w'.1 v 4 = w.1 v 4) (h2 : ∀ f, f < 4 → w'.1 c' f = w.1 c f) (h : jL c v w) : jL c' v w' := fun f hf hv => by
  rw [h2 f hf]
  exact h f hf (by rw [← h1]; exact hv)
/-- so are the states that can come back -/
def jRg (w : cm_W) : Prop := ∀ j, j < (w.1 47 2).toInt.toNat → jL (53 + 7 * (((w.1 47 1).toInt.toNat + 7 - j) % 8)) 4 w
def jCl (w : cm_W) : Prop := jL 37 4 w ∧ jRg w ∧ jL 149 131 w ∧ jL 176 158 w
def jSup (k i : Nat) : Prop := (k = 4 ∧ i = 4) ∨ k = 37 ∨ k = 47 ∨ (53 ≤ k ∧ k ≤ 102) ∨ (k = 131 ∧ i = 4) ∨ k = 149 ∨ (k = 158 ∧ i = 4) ∨ k = 176
theorem jCl_fr {w w' : cm_W} (h : ∀ k i, jSup k i → w'.1 k i = w.1 k i) (hc : jCl w) : jCl w' := by
  unfold jSup at h
  obtain ⟨h1, h2, h3, h4⟩ := hc
  refine ⟨jL_eq (h 4 4 (by omega)) (fun f _ => h 37 f (by omega)) h1, fun j hj => ?_, jL_eq (h 131 4 (by omega)) (fun f _ => h 149 f (by omega)) h3, jL_eq (h 158 4 (by omega)) (fun f _ => h 176 f (by omega)) h4⟩
  rw [h 47 2 (by omega)] at hj
  rw [h 47 1 (by omega)]
  exact jL_eq (h 4 4 (by omega)) (fun f _ => h _ f (by omega)) (h2 j hj)
theorem jcp_49_33 {w : cm_W} (hG : sv_w sg w) : ∃ w' : cm_W, cm_C 1 72 [.inr (.inr (some 49)), .inr (.inr (some 33))] w (none, w') ∧ sv_w sg w' ∧ (∀ k i, ¬ (49 ≤ k ∧ k ≤ 55) → w'.1 k i = w.1 k i) ∧ (∀ f, f < 4 → w'.1 53 f = w.1 37 f) := by
  have h : ∃ o, cm_C (0 + 1) 72 [.inr (.inr (some 49)), .inr (.inr (some 33))] w o ∧ (fun o : cm_O => ∃ w', o = (none, w') ∧ sv_w sg w' ∧ (∀ k i, ¬ (49 ≤ k ∧ k ≤ 55) → w'.1 k i = w.1 k i) ∧ (∀ f, f < 4 → w'.1 53 f = w.1 37 f)) o := by
    refine wk_entry (by rw [xm_226784a6]; exact Nat.le_of_ble_eq_true rfl) ?_
    rw [show cm_ent 72 [.inr (.inr (some 49)), .inr (.inr (some 33))] = [some (.inr (.inr (some 49))), some (.inr (.inr (some 33)))] from by unfold cm_ent; rw [xm_226784a6]; rfl]
    refine wk_aload_n xd_f207e404 rfl ?_
    refine wk_aload_n xd_54142760 rfl ?_
    refine wk_getI xf_3d7a127e xd_956f11b0 ?_
    refine wk_putI xf_66108846 (fun ci => wk_fitI ci) xd_e2ee4121 ?_
    have hG1_ : sv_w sg (cm_u1 w 49 1 (w.1 33 1)) := sv_w_u1 hG (by rw [xg_1bebdcea]; exact sv_in_top _)
    refine wk_aload_n xd_f2bea722 rfl ?_
    refine wk_aload_n xd_54ad6446 rfl ?_
    refine wk_getI xf_93b80099 xd_4b627024 ?_
    refine wk_putI xf_c8d29aa1 (fun ci => wk_fitI ci) xd_c75e6a4e ?_
    have hG2_ : sv_w sg (cm_u1 (cm_u1 w 49 1 (w.1 33 1)) 49 2 ((cm_u1 w 49 1 (w.1 33 1)).1 33 2)) := sv_w_u1 hG1_ (by rw [xg_f0dc67e9]; exact sv_in_top _)
    refine wk_aload_n xd_623d6ccc rfl ?_
    refine wk_aload_n xd_c42eafa8 rfl ?_
    refine wk_getI xf_f7f184bd xd_777cb15a ?_
    refine wk_putI xf_ac9b1e85 (fun ci => wk_fitI ci) xd_b57af322 ?_
    have hG3_ : sv_w sg (cm_u1 (cm_u1 (cm_u1 w 49 1 (w.1 33 1)) 49 2 ((cm_u1 w 49 1 (w.1 33 1)).1 33 2)) 49 3 ((cm_u1 (cm_u1 w 49 1 (w.1 33 1)) 49 2 ((cm_u1 w 49 1 (w.1 33 1)).1 33 2)).1 33 3)) := sv_w_u1 hG2_ (by rw [xg_1f1e0cd7]; exact sv_in_top _)
    refine wk_aload_n xd_ead53fbd rfl ?_
    refine wk_getR xf_6558dbb5 xd_b45cc7e4 ?_
    refine wk_iconst xd_a51768c8 ?_
    refine wk_aload_n xd_4c231e6c rfl ?_
    refine wk_getR xf_c1724772 xd_f9f4ac92 ?_
    refine wk_iconst xd_be5f095c ?_
    refine wk_bipush xd_b4989d86 ?_
    refine aw_acp (n := 16) xl_cbb5c3e5 xf_6a47d56f (by decide) (by decide) (by decide) rfl xd_4e091714 ?_
    refine wk_aload_n xd_f06652fb rfl ?_
    refine wk_getR xf_73b645bc xd_33b325d7 ?_
    refine wk_iconst xd_c8e691f2 ?_
    refine wk_aload_n xd_6788445d rfl ?_
    refine wk_getR xf_d79cd97b xd_6d85ff22 ?_
    refine wk_iconst xd_48dd1ab2 ?_
    refine wk_bipush xd_30ebd4e8 ?_
    refine aw_acp (n := 16) xl_cbb5c3e5 xf_19b99d7b (by decide) (by decide) (by decide) rfl xd_352d5499 ?_
    refine wk_aload_n xd_dbcd08ca rfl ?_
    refine wk_getR xf_6f2ca336 xd_72089d04 ?_
    refine wk_iconst xd_d3aef066 ?_
    refine wk_aload_n xd_7d3b291b rfl ?_
    refine wk_getR xf_cb063ff1 xd_de69aa09 ?_
    refine wk_iconst xd_2570421b ?_
    refine wk_bipush xd_2fb7d6c1 ?_
    refine aw_acp (n := 16) xl_cbb5c3e5 xf_8dbb4547 (by decide) (by decide) (by decide) rfl xd_83ea783c ?_
    refine wk_aload_n xd_1845a983 rfl ?_
    refine wk_getR xf_ed92ca0d xd_b2f01c41 ?_
    refine wk_iconst xd_be03a8cf ?_
    refine wk_aload_n xd_3f96ed75 rfl ?_
    refine wk_getR xf_49b856ca xd_ecc6c6b4 ?_
    refine wk_iconst xd_3e38238f ?_
    refine wk_iconst xd_dc90e18f ?_
    refine aw_acp (n := 16) xl_cbb5c3e5 xf_a629b492 (by decide) (by decide) (by decide) rfl xd_a3bffc94 ?_
    refine wk_aload_n xd_975a57a2 rfl ?_
    refine wk_getR xf_47e9db2d xd_0c478f50 ?_
    refine wk_iconst xd_94a2e047 ?_
    refine wk_aload_n xd_dc660409 rfl ?_
    refine wk_getR xf_b9c09487 xd_7e7ac612 ?_
    refine wk_iconst xd_4458fd53 ?_
    refine wk_bipush xd_3c6e3309 ?_
    refine aw_acp (n := 16) xl_cbb5c3e5 xf_24cc2013 (by decide) (by decide) (by decide) rfl xd_abb6a469 ?_
    refine wk_aload_n xd_6023489e rfl ?_
    refine wk_getR xf_24a164ab xd_dec71a55 ?_
    refine wk_iconst xd_a262ae13 ?_
    refine wk_aload_n xd_5d2560f6 rfl ?_
    refine wk_getR xf_da882b01 xd_8bfa0914 ?_
    refine wk_iconst xd_e9eb59d3 ?_
    refine wk_bipush xd_ad61e9a9 ?_
    refine aw_acp (n := 16) xl_cbb5c3e5 xf_a36a912e (by decide) (by decide) (by decide) rfl xd_752b4d77 ?_
    refine wk_return xd_2112c339 xr_8cd0fd39 ⟨_, rfl, (aw_cpG xf_b7ff3d34 (aw_cpG xf_7ca3ee91 (aw_cpG xf_61a6de29 (aw_cpG xf_aafa0d8c (aw_cpG xf_2c6e7f22 (aw_cpG xf_e732ac87 hG3_)))))), fun k i hk => ?_, fun f hf => ?_⟩
    · rw [aw_cp_o (by omega), aw_cp_o (by omega), aw_cp_o (by omega), aw_cp_o (by omega), aw_cp_o (by omega), aw_cp_o (by omega), hs_u1_ne (by omega), hs_u1_ne (by omega), hs_u1_ne (by omega)]
    · rw [aw_cp_o (by decide), aw_cp_o (by decide), aw_cp_i (by omega), aw_cp_o (by decide), aw_cp_o (by decide), aw_cp_o (by decide), hs_u1_ne (by omega), hs_u1_ne (by omega), hs_u1_ne (by omega)]
  obtain ⟨o, hC, w', rfl, a⟩ := h
  exact ⟨w', hC, a⟩
theorem jcp_56_33 {w : cm_W} (hG : sv_w sg w) : ∃ w' : cm_W, cm_C 1 72 [.inr (.inr (some 56)), .inr (.inr (some 33))] w (none, w') ∧ sv_w sg w' ∧ (∀ k i, ¬ (56 ≤ k ∧ k ≤ 62) → w'.1 k i = w.1 k i) ∧ (∀ f, f < 4 → w'.1 60 f = w.1 37 f) := by
  have h : ∃ o, cm_C (0 + 1) 72 [.inr (.inr (some 56)), .inr (.inr (some 33))] w o ∧ (fun o : cm_O => ∃ w', o = (none, w') ∧ sv_w sg w' ∧ (∀ k i, ¬ (56 ≤ k ∧ k ≤ 62) → w'.1 k i = w.1 k i) ∧ (∀ f, f < 4 → w'.1 60 f = w.1 37 f)) o := by
    refine wk_entry (by rw [xm_226784a6]; exact Nat.le_of_ble_eq_true rfl) ?_
    rw [show cm_ent 72 [.inr (.inr (some 56)), .inr (.inr (some 33))] = [some (.inr (.inr (some 56))), some (.inr (.inr (some 33)))] from by unfold cm_ent; rw [xm_226784a6]; rfl]
    refine wk_aload_n xd_f207e404 rfl ?_
    refine wk_aload_n xd_54142760 rfl ?_
    refine wk_getI xf_3d7a127e xd_956f11b0 ?_
    refine wk_putI xf_c912ceb2 (fun ci => wk_fitI ci) xd_e2ee4121 ?_
    have hG1_ : sv_w sg (cm_u1 w 56 1 (w.1 33 1)) := sv_w_u1 hG (by rw [xg_b4e99a1e]; exact sv_in_top _)
    refine wk_aload_n xd_f2bea722 rfl ?_
    refine wk_aload_n xd_54ad6446 rfl ?_
    refine wk_getI xf_93b80099 xd_4b627024 ?_
    refine wk_putI xf_67d0dc55 (fun ci => wk_fitI ci) xd_c75e6a4e ?_
    have hG2_ : sv_w sg (cm_u1 (cm_u1 w 56 1 (w.1 33 1)) 56 2 ((cm_u1 w 56 1 (w.1 33 1)).1 33 2)) := sv_w_u1 hG1_ (by rw [xg_5fde211d]; exact sv_in_top _)
    refine wk_aload_n xd_623d6ccc rfl ?_
    refine wk_aload_n xd_c42eafa8 rfl ?_
    refine wk_getI xf_f7f184bd xd_777cb15a ?_
    refine wk_putI xf_03995871 (fun ci => wk_fitI ci) xd_b57af322 ?_
    have hG3_ : sv_w sg (cm_u1 (cm_u1 (cm_u1 w 56 1 (w.1 33 1)) 56 2 ((cm_u1 w 56 1 (w.1 33 1)).1 33 2)) 56 3 ((cm_u1 (cm_u1 w 56 1 (w.1 33 1)) 56 2 ((cm_u1 w 56 1 (w.1 33 1)).1 33 2)).1 33 3)) := sv_w_u1 hG2_ (by rw [xg_b01c4a23]; exact sv_in_top _)
    refine wk_aload_n xd_ead53fbd rfl ?_
    refine wk_getR xf_6558dbb5 xd_b45cc7e4 ?_
    refine wk_iconst xd_a51768c8 ?_
    refine wk_aload_n xd_4c231e6c rfl ?_
    refine wk_getR xf_9af9eca2 xd_f9f4ac92 ?_
    refine wk_iconst xd_be5f095c ?_
    refine wk_bipush xd_b4989d86 ?_
    refine aw_acp (n := 16) xl_cbb5c3e5 xf_97be2d1a (by decide) (by decide) (by decide) rfl xd_4e091714 ?_
    refine wk_aload_n xd_f06652fb rfl ?_
    refine wk_getR xf_73b645bc xd_33b325d7 ?_
    refine wk_iconst xd_c8e691f2 ?_
    refine wk_aload_n xd_6788445d rfl ?_
    refine wk_getR xf_76f17e1b xd_6d85ff22 ?_
    refine wk_iconst xd_48dd1ab2 ?_
    refine wk_bipush xd_30ebd4e8 ?_
    refine aw_acp (n := 16) xl_cbb5c3e5 xf_c4c293a5 (by decide) (by decide) (by decide) rfl xd_352d5499 ?_
    refine wk_aload_n xd_dbcd08ca rfl ?_
    refine wk_getR xf_6f2ca336 xd_72089d04 ?_
    refine wk_iconst xd_d3aef066 ?_
    refine wk_aload_n xd_7d3b291b rfl ?_
    refine wk_getR xf_0a372dda xd_de69aa09 ?_
    refine wk_iconst xd_2570421b ?_
    refine wk_bipush xd_2fb7d6c1 ?_
    refine aw_acp (n := 16) xl_cbb5c3e5 xf_d7606efa (by decide) (by decide) (by decide) rfl xd_83ea783c ?_
    refine wk_aload_n xd_1845a983 rfl ?_
    refine wk_getR xf_ed92ca0d xd_b2f01c41 ?_
    refine wk_iconst xd_be03a8cf ?_
    refine wk_aload_n xd_3f96ed75 rfl ?_
    refine wk_getR xf_aeebb257 xd_ecc6c6b4 ?_
    refine wk_iconst xd_3e38238f ?_
    refine wk_iconst xd_dc90e18f ?_
    refine aw_acp (n := 16) xl_cbb5c3e5 xf_dc7b5be4 (by decide) (by decide) (by decide) rfl xd_a3bffc94 ?_
    refine wk_aload_n xd_975a57a2 rfl ?_
    refine wk_getR xf_47e9db2d xd_0c478f50 ?_
    refine wk_iconst xd_94a2e047 ?_
    refine wk_aload_n xd_dc660409 rfl ?_
    refine wk_getR xf_fe76afc7 xd_7e7ac612 ?_
    refine wk_iconst xd_4458fd53 ?_
    refine wk_bipush xd_3c6e3309 ?_
    refine aw_acp (n := 16) xl_cbb5c3e5 xf_0d0fa681 (by decide) (by decide) (by decide) rfl xd_abb6a469 ?_
    refine wk_aload_n xd_6023489e rfl ?_
    refine wk_getR xf_24a164ab xd_dec71a55 ?_
    refine wk_iconst xd_a262ae13 ?_
    refine wk_aload_n xd_5d2560f6 rfl ?_
    refine wk_getR xf_fd62a50a xd_8bfa0914 ?_
    refine wk_iconst xd_e9eb59d3 ?_
    refine wk_bipush xd_ad61e9a9 ?_
    refine aw_acp (n := 16) xl_cbb5c3e5 xf_697e3007 (by decide) (by decide) (by decide) rfl xd_752b4d77 ?_
    refine wk_return xd_2112c339 xr_8cd0fd39 ⟨_, rfl, (aw_cpG xf_9b121711 (aw_cpG xf_1d8665bf (aw_cpG xf_d6dab61a (aw_cpG xf_c03dfd4f (aw_cpG xf_0b612eea (aw_cpG xf_fa379c3f hG3_)))))), fun k i hk => ?_, fun f hf => ?_⟩
    · rw [aw_cp_o (by omega), aw_cp_o (by omega), aw_cp_o (by omega), aw_cp_o (by omega), aw_cp_o (by omega), aw_cp_o (by omega), hs_u1_ne (by omega), hs_u1_ne (by omega), hs_u1_ne (by omega)]
    · rw [aw_cp_o (by decide), aw_cp_o (by decide), aw_cp_i (by omega), aw_cp_o (by decide), aw_cp_o (by decide), aw_cp_o (by decide), hs_u1_ne (by omega), hs_u1_ne (by omega), hs_u1_ne (by omega)]
  obtain ⟨o, hC, w', rfl, a⟩ := h
  exact ⟨w', hC, a⟩
theorem jcp_63_33 {w : cm_W} (hG : sv_w sg w) : ∃ w' : cm_W, cm_C 1 72 [.inr (.inr (some 63)), .inr (.inr (some 33))] w (none, w') ∧ sv_w sg w' ∧ (∀ k i, ¬ (63 ≤ k ∧ k ≤ 69) → w'.1 k i = w.1 k i) ∧ (∀ f, f < 4 → w'.1 67 f = w.1 37 f) := by
  have h : ∃ o, cm_C (0 + 1) 72 [.inr (.inr (some 63)), .inr (.inr (some 33))] w o ∧ (fun o : cm_O => ∃ w', o = (none, w') ∧ sv_w sg w' ∧ (∀ k i, ¬ (63 ≤ k ∧ k ≤ 69) → w'.1 k i = w.1 k i) ∧ (∀ f, f < 4 → w'.1 67 f = w.1 37 f)) o := by
    refine wk_entry (by rw [xm_226784a6]; exact Nat.le_of_ble_eq_true rfl) ?_
    rw [show cm_ent 72 [.inr (.inr (some 63)), .inr (.inr (some 33))] = [some (.inr (.inr (some 63))), some (.inr (.inr (some 33)))] from by unfold cm_ent; rw [xm_226784a6]; rfl]
    refine wk_aload_n xd_f207e404 rfl ?_
    refine wk_aload_n xd_54142760 rfl ?_
    refine wk_getI xf_3d7a127e xd_956f11b0 ?_
    refine wk_putI xf_ec7bd56c (fun ci => wk_fitI ci) xd_e2ee4121 ?_
    have hG1_ : sv_w sg (cm_u1 w 63 1 (w.1 33 1)) := sv_w_u1 hG (by rw [xg_918081c0]; exact sv_in_top _)
    refine wk_aload_n xd_f2bea722 rfl ?_
    refine wk_aload_n xd_54ad6446 rfl ?_
    refine wk_getI xf_93b80099 xd_4b627024 ?_
    refine wk_putI xf_42b9c78b (fun ci => wk_fitI ci) xd_c75e6a4e ?_
    have hG2_ : sv_w sg (cm_u1 (cm_u1 w 63 1 (w.1 33 1)) 63 2 ((cm_u1 w 63 1 (w.1 33 1)).1 33 2)) := sv_w_u1 hG1_ (by rw [xg_7ab73ac3]; exact sv_in_top _)
    refine wk_aload_n xd_623d6ccc rfl ?_
    refine wk_aload_n xd_c42eafa8 rfl ?_
    refine wk_getI xf_f7f184bd xd_777cb15a ?_
    refine wk_putI xf_26f043af (fun ci => wk_fitI ci) xd_b57af322 ?_
    have hG3_ : sv_w sg (cm_u1 (cm_u1 (cm_u1 w 63 1 (w.1 33 1)) 63 2 ((cm_u1 w 63 1 (w.1 33 1)).1 33 2)) 63 3 ((cm_u1 (cm_u1 w 63 1 (w.1 33 1)) 63 2 ((cm_u1 w 63 1 (w.1 33 1)).1 33 2)).1 33 3)) := sv_w_u1 hG2_ (by rw [xg_957551fd]; exact sv_in_top _)
    refine wk_aload_n xd_ead53fbd rfl ?_
    refine wk_getR xf_6558dbb5 xd_b45cc7e4 ?_
    refine wk_iconst xd_a51768c8 ?_
    refine wk_aload_n xd_4c231e6c rfl ?_
    refine wk_getR xf_ca7165c7 xd_f9f4ac92 ?_
    refine wk_iconst xd_be5f095c ?_
    refine wk_bipush xd_b4989d86 ?_
    refine aw_acp (n := 16) xl_cbb5c3e5 xf_edecc26c (by decide) (by decide) (by decide) rfl xd_4e091714 ?_
    refine wk_aload_n xd_f06652fb rfl ?_
    refine wk_getR xf_73b645bc xd_33b325d7 ?_
    refine wk_iconst xd_c8e691f2 ?_
    refine wk_aload_n xd_6788445d rfl ?_
    refine wk_getR xf_dc9ffbce xd_6d85ff22 ?_
    refine wk_iconst xd_48dd1ab2 ?_
    refine wk_bipush xd_30ebd4e8 ?_
    refine aw_acp (n := 16) xl_cbb5c3e5 xf_9e128a78 (by decide) (by decide) (by decide) rfl xd_352d5499 ?_
    refine wk_aload_n xd_dbcd08ca rfl ?_
    refine wk_getR xf_6f2ca336 xd_72089d04 ?_
    refine wk_iconst xd_d3aef066 ?_
    refine wk_aload_n xd_7d3b291b rfl ?_
    refine wk_getR xf_c0051d44 xd_de69aa09 ?_
    refine wk_iconst xd_2570421b ?_
    refine wk_bipush xd_2fb7d6c1 ?_
    refine aw_acp (n := 16) xl_cbb5c3e5 xf_0a105244 (by decide) (by decide) (by decide) rfl xd_83ea783c ?_
    refine wk_aload_n xd_1845a983 rfl ?_
    refine wk_getR xf_ed92ca0d xd_b2f01c41 ?_
    refine wk_iconst xd_be03a8cf ?_
    refine wk_aload_n xd_3f96ed75 rfl ?_
    refine wk_getR xf_42bb747f xd_ecc6c6b4 ?_
    refine wk_iconst xd_3e38238f ?_
    refine wk_iconst xd_dc90e18f ?_
    refine aw_acp (n := 16) xl_cbb5c3e5 xf_2182a391 (by decide) (by decide) (by decide) rfl xd_a3bffc94 ?_
    refine wk_aload_n xd_975a57a2 rfl ?_
    refine wk_getR xf_47e9db2d xd_0c478f50 ?_
    refine wk_iconst xd_94a2e047 ?_
    refine wk_aload_n xd_dc660409 rfl ?_
    refine wk_getR xf_e8c0655f xd_7e7ac612 ?_
    refine wk_iconst xd_4458fd53 ?_
    refine wk_bipush xd_3c6e3309 ?_
    refine aw_acp (n := 16) xl_cbb5c3e5 xf_d074a85f (by decide) (by decide) (by decide) rfl xd_abb6a469 ?_
    refine wk_aload_n xd_6023489e rfl ?_
    refine wk_getR xf_24a164ab xd_dec71a55 ?_
    refine wk_iconst xd_a262ae13 ?_
    refine wk_aload_n xd_5d2560f6 rfl ?_
    refine wk_getR xf_8b88dad9 xd_8bfa0914 ?_
    refine wk_iconst xd_e9eb59d3 ?_
    refine wk_bipush xd_ad61e9a9 ?_
    refine aw_acp (n := 16) xl_cbb5c3e5 xf_dcf4241d (by decide) (by decide) (by decide) rfl xd_752b4d77 ?_
    refine wk_return xd_2112c339 xr_8cd0fd39 ⟨_, rfl, (aw_cpG xf_f1d5e7d2 (aw_cpG xf_3a893477 (aw_cpG xf_cbdf86a2 (aw_cpG xf_00835507 (aw_cpG xf_861727a9 (aw_cpG xf_4d4bf40c hG3_)))))), fun k i hk => ?_, fun f hf => ?_⟩
    · rw [aw_cp_o (by omega), aw_cp_o (by omega), aw_cp_o (by omega), aw_cp_o (by omega), aw_cp_o (by omega), aw_cp_o (by omega), hs_u1_ne (by omega), hs_u1_ne (by omega), hs_u1_ne (by omega)]
    · rw [aw_cp_o (by decide), aw_cp_o (by decide), aw_cp_i (by omega), aw_cp_o (by decide), aw_cp_o (by decide), aw_cp_o (by decide), hs_u1_ne (by omega), hs_u1_ne (by omega), hs_u1_ne (by omega)]
  obtain ⟨o, hC, w', rfl, a⟩ := h
  exact ⟨w', hC, a⟩
theorem jcp_70_33 {w : cm_W} (hG : sv_w sg w) : ∃ w' : cm_W, cm_C 1 72 [.inr (.inr (some 70)), .inr (.inr (some 33))] w (none, w') ∧ sv_w sg w' ∧ (∀ k i, ¬ (70 ≤ k ∧ k ≤ 76) → w'.1 k i = w.1 k i) ∧ (∀ f, f < 4 → w'.1 74 f = w.1 37 f) := by
  have h : ∃ o, cm_C (0 + 1) 72 [.inr (.inr (some 70)), .inr (.inr (some 33))] w o ∧ (fun o : cm_O => ∃ w', o = (none, w') ∧ sv_w sg w' ∧ (∀ k i, ¬ (70 ≤ k ∧ k ≤ 76) → w'.1 k i = w.1 k i) ∧ (∀ f, f < 4 → w'.1 74 f = w.1 37 f)) o := by
    refine wk_entry (by rw [xm_226784a6]; exact Nat.le_of_ble_eq_true rfl) ?_
    rw [show cm_ent 72 [.inr (.inr (some 70)), .inr (.inr (some 33))] = [some (.inr (.inr (some 70))), some (.inr (.inr (some 33)))] from by unfold cm_ent; rw [xm_226784a6]; rfl]
    refine wk_aload_n xd_f207e404 rfl ?_
    refine wk_aload_n xd_54142760 rfl ?_
    refine wk_getI xf_3d7a127e xd_956f11b0 ?_
    refine wk_putI xf_4673de19 (fun ci => wk_fitI ci) xd_e2ee4121 ?_
    have hG1_ : sv_w sg (cm_u1 w 70 1 (w.1 33 1)) := sv_w_u1 hG (by rw [xg_3b888ab5]; exact sv_in_top _)
    refine wk_aload_n xd_f2bea722 rfl ?_
    refine wk_aload_n xd_54ad6446 rfl ?_
    refine wk_getI xf_93b80099 xd_4b627024 ?_
    refine wk_putI xf_e8b1ccfe (fun ci => wk_fitI ci) xd_c75e6a4e ?_
    have hG2_ : sv_w sg (cm_u1 (cm_u1 w 70 1 (w.1 33 1)) 70 2 ((cm_u1 w 70 1 (w.1 33 1)).1 33 2)) := sv_w_u1 hG1_ (by rw [xg_d0bf31b6]; exact sv_in_top _)
    refine wk_aload_n xd_623d6ccc rfl ?_
    refine wk_aload_n xd_c42eafa8 rfl ?_
    refine wk_getI xf_f7f184bd xd_777cb15a ?_
    refine wk_putI xf_8cf848da (fun ci => wk_fitI ci) xd_b57af322 ?_
    have hG3_ : sv_w sg (cm_u1 (cm_u1 (cm_u1 w 70 1 (w.1 33 1)) 70 2 ((cm_u1 w 70 1 (w.1 33 1)).1 33 2)) 70 3 ((cm_u1 (cm_u1 w 70 1 (w.1 33 1)) 70 2 ((cm_u1 w 70 1 (w.1 33 1)).1 33 2)).1 33 3)) := sv_w_u1 hG2_ (by rw [xg_3f7d5a88]; exact sv_in_top _)
    refine wk_aload_n xd_ead53fbd rfl ?_
    refine wk_getR xf_6558dbb5 xd_b45cc7e4 ?_
    refine wk_iconst xd_a51768c8 ?_
    refine wk_aload_n xd_4c231e6c rfl ?_
    refine wk_getR xf_8c608a4d xd_f9f4ac92 ?_
    refine wk_iconst xd_be5f095c ?_
    refine wk_bipush xd_b4989d86 ?_
    refine aw_acp (n := 16) xl_cbb5c3e5 xf_1013d439 (by decide) (by decide) (by decide) rfl xd_4e091714 ?_
    refine wk_aload_n xd_f06652fb rfl ?_
    refine wk_getR xf_73b645bc xd_33b325d7 ?_
    refine wk_iconst xd_c8e691f2 ?_
    refine wk_aload_n xd_6788445d rfl ?_
    refine wk_getR xf_fad2a10f xd_6d85ff22 ?_
    refine wk_iconst xd_48dd1ab2 ?_
    refine wk_bipush xd_30ebd4e8 ?_
    refine aw_acp (n := 16) xl_cbb5c3e5 xf_e44db94e (by decide) (by decide) (by decide) rfl xd_352d5499 ?_
    refine wk_aload_n xd_dbcd08ca rfl ?_
    refine wk_getR xf_6f2ca336 xd_72089d04 ?_
    refine wk_iconst xd_d3aef066 ?_
    refine wk_aload_n xd_7d3b291b rfl ?_
    refine wk_getR xf_8614f2ce xd_de69aa09 ?_
    refine wk_iconst xd_2570421b ?_
    refine wk_bipush xd_2fb7d6c1 ?_
    refine aw_acp (n := 16) xl_cbb5c3e5 xf_f7ef4411 (by decide) (by decide) (by decide) rfl xd_83ea783c ?_
    refine wk_aload_n xd_1845a983 rfl ?_
    refine wk_getR xf_ed92ca0d xd_b2f01c41 ?_
    refine wk_iconst xd_be03a8cf ?_
    refine wk_aload_n xd_3f96ed75 rfl ?_
    refine wk_getR xf_a44f4428 xd_ecc6c6b4 ?_
    refine wk_iconst xd_3e38238f ?_
    refine wk_iconst xd_dc90e18f ?_
    refine aw_acp (n := 16) xl_cbb5c3e5 xf_8fecdc20 (by decide) (by decide) (by decide) rfl xd_a3bffc94 ?_
    refine wk_aload_n xd_975a57a2 rfl ?_
    refine wk_getR xf_47e9db2d xd_0c478f50 ?_
    refine wk_iconst xd_94a2e047 ?_
    refine wk_aload_n xd_dc660409 rfl ?_
    refine wk_getR xf_f4d259b8 xd_7e7ac612 ?_
    refine wk_iconst xd_4458fd53 ?_
    refine wk_bipush xd_3c6e3309 ?_
    refine aw_acp (n := 16) xl_cbb5c3e5 xf_5e982145 (by decide) (by decide) (by decide) rfl xd_abb6a469 ?_
    refine wk_aload_n xd_6023489e rfl ?_
    refine wk_getR xf_24a164ab xd_dec71a55 ?_
    refine wk_iconst xd_a262ae13 ?_
    refine wk_aload_n xd_5d2560f6 rfl ?_
    refine wk_getR xf_f7c65375 xd_8bfa0914 ?_
    refine wk_iconst xd_e9eb59d3 ?_
    refine wk_bipush xd_ad61e9a9 ?_
    refine aw_acp (n := 16) xl_cbb5c3e5 xf_f524a129 (by decide) (by decide) (by decide) rfl xd_752b4d77 ?_
    refine wk_return xd_2112c339 xr_8cd0fd39 ⟨_, rfl, (aw_cpG xf_a6f45eb3 (aw_cpG xf_20602c1d (aw_cpG xf_eb3cffb8 (aw_cpG xf_f639cf00 (aw_cpG xf_3d651ca5 (aw_cpG xf_bbf16e0b hG3_)))))), fun k i hk => ?_, fun f hf => ?_⟩
    · rw [aw_cp_o (by omega), aw_cp_o (by omega), aw_cp_o (by omega), aw_cp_o (by omega), aw_cp_o (by omega), aw_cp_o (by omega), hs_u1_ne (by omega), hs_u1_ne (by omega), hs_u1_ne (by omega)]
    · rw [aw_cp_o (by decide), aw_cp_o (by decide), aw_cp_i (by omega), aw_cp_o (by decide), aw_cp_o (by decide), aw_cp_o (by decide), hs_u1_ne (by omega), hs_u1_ne (by omega), hs_u1_ne (by omega)]
  obtain ⟨o, hC, w', rfl, a⟩ := h
  exact ⟨w', hC, a⟩
theorem jcp_77_33 {w : cm_W} (hG : sv_w sg w) : ∃ w' : cm_W, cm_C 1 72 [.inr (.inr (some 77)), .inr (.inr (some 33))] w (none, w') ∧ sv_w sg w' ∧ (∀ k i, ¬ (77 ≤ k ∧ k ≤ 83) → w'.1 k i = w.1 k i) ∧ (∀ f, f < 4 → w'.1 81 f = w.1 37 f) := by
  have h : ∃ o, cm_C (0 + 1) 72 [.inr (.inr (some 77)), .inr (.inr (some 33))] w o ∧ (fun o : cm_O => ∃ w', o = (none, w') ∧ sv_w sg w' ∧ (∀ k i, ¬ (77 ≤ k ∧ k ≤ 83) → w'.1 k i = w.1 k i) ∧ (∀ f, f < 4 → w'.1 81 f = w.1 37 f)) o := by
    refine wk_entry (by rw [xm_226784a6]; exact Nat.le_of_ble_eq_true rfl) ?_
    rw [show cm_ent 72 [.inr (.inr (some 77)), .inr (.inr (some 33))] = [some (.inr (.inr (some 77))), some (.inr (.inr (some 33)))] from by unfold cm_ent; rw [xm_226784a6]; rfl]
    refine wk_aload_n xd_f207e404 rfl ?_
    refine wk_aload_n xd_54142760 rfl ?_
    refine wk_getI xf_3d7a127e xd_956f11b0 ?_
    refine wk_putI xf_32eb3796 (fun ci => wk_fitI ci) xd_e2ee4121 ?_
    have hG1_ : sv_w sg (cm_u1 w 77 1 (w.1 33 1)) := sv_w_u1 hG (by rw [xg_4f10633a]; exact sv_in_top _)
    refine wk_aload_n xd_f2bea722 rfl ?_
    refine wk_aload_n xd_54ad6446 rfl ?_
    refine wk_getI xf_93b80099 xd_4b627024 ?_
    refine wk_putI xf_9c292571 (fun ci => wk_fitI ci) xd_c75e6a4e ?_
    have hG2_ : sv_w sg (cm_u1 (cm_u1 w 77 1 (w.1 33 1)) 77 2 ((cm_u1 w 77 1 (w.1 33 1)).1 33 2)) := sv_w_u1 hG1_ (by rw [xg_a427d839]; exact sv_in_top _)
    refine wk_aload_n xd_623d6ccc rfl ?_
    refine wk_aload_n xd_c42eafa8 rfl ?_
    refine wk_getI xf_f7f184bd xd_777cb15a ?_
    refine wk_putI xf_f860a155 (fun ci => wk_fitI ci) xd_b57af322 ?_
    have hG3_ : sv_w sg (cm_u1 (cm_u1 (cm_u1 w 77 1 (w.1 33 1)) 77 2 ((cm_u1 w 77 1 (w.1 33 1)).1 33 2)) 77 3 ((cm_u1 (cm_u1 w 77 1 (w.1 33 1)) 77 2 ((cm_u1 w 77 1 (w.1 33 1)).1 33 2)).1 33 3)) := sv_w_u1 hG2_ (by rw [xg_4be5b307]; exact sv_in_top _)
    refine wk_aload_n xd_ead53fbd rfl ?_
    refine wk_getR xf_6558dbb5 xd_b45cc7e4 ?_
    refine wk_iconst xd_a51768c8 ?_
    refine wk_aload_n xd_4c231e6c rfl ?_
    refine wk_getR xf_41cb0bee xd_f9f4ac92 ?_
    refine wk_iconst xd_be5f095c ?_
    refine wk_bipush xd_b4989d86 ?_
    refine aw_acp (n := 16) xl_cbb5c3e5 xf_cd68dae7 (by decide) (by decide) (by decide) rfl xd_4e091714 ?_
    refine wk_aload_n xd_f06652fb rfl ?_
    refine wk_getR xf_73b645bc xd_33b325d7 ?_
    refine wk_iconst xd_c8e691f2 ?_
    refine wk_aload_n xd_6788445d rfl ?_
    refine wk_getR xf_572595e7 xd_6d85ff22 ?_
    refine wk_iconst xd_48dd1ab2 ?_
    refine wk_bipush xd_30ebd4e8 ?_
    refine aw_acp (n := 16) xl_cbb5c3e5 xf_be9692f3 (by decide) (by decide) (by decide) rfl xd_352d5499 ?_
    refine wk_aload_n xd_dbcd08ca rfl ?_
    refine wk_getR xf_6f2ca336 xd_72089d04 ?_
    refine wk_iconst xd_d3aef066 ?_
    refine wk_aload_n xd_7d3b291b rfl ?_
    refine wk_getR xf_2774a1bd xd_de69aa09 ?_
    refine wk_iconst xd_2570421b ?_
    refine wk_bipush xd_2fb7d6c1 ?_
    refine aw_acp (n := 16) xl_cbb5c3e5 xf_18a5c336 (by decide) (by decide) (by decide) rfl xd_83ea783c ?_
    refine wk_aload_n xd_1845a983 rfl ?_
    refine wk_getR xf_ed92ca0d xd_b2f01c41 ?_
    refine wk_iconst xd_be03a8cf ?_
    refine wk_aload_n xd_3f96ed75 rfl ?_
    refine wk_getR xf_a5cac886 xd_ecc6c6b4 ?_
    refine wk_iconst xd_3e38238f ?_
    refine wk_iconst xd_dc90e18f ?_
    refine aw_acp (n := 16) xl_cbb5c3e5 xf_333732e3 (by decide) (by decide) (by decide) rfl xd_a3bffc94 ?_
    refine wk_aload_n xd_975a57a2 rfl ?_
    refine wk_getR xf_47e9db2d xd_0c478f50 ?_
    refine wk_iconst xd_94a2e047 ?_
    refine wk_aload_n xd_dc660409 rfl ?_
    refine wk_getR xf_950b605d xd_7e7ac612 ?_
    refine wk_iconst xd_4458fd53 ?_
    refine wk_bipush xd_3c6e3309 ?_
    refine aw_acp (n := 16) xl_cbb5c3e5 xf_65e3eae5 (by decide) (by decide) (by decide) rfl xd_abb6a469 ?_
    refine wk_aload_n xd_6023489e rfl ?_
    refine wk_getR xf_24a164ab xd_dec71a55 ?_
    refine wk_iconst xd_a262ae13 ?_
    refine wk_aload_n xd_5d2560f6 rfl ?_
    refine wk_getR xf_f643dfdb xd_8bfa0914 ?_
    refine wk_iconst xd_e9eb59d3 ?_
    refine wk_bipush xd_ad61e9a9 ?_
    refine aw_acp (n := 16) xl_cbb5c3e5 xf_f7f5e9cd (by decide) (by decide) (by decide) rfl xd_752b4d77 ?_
    refine wk_return xd_2112c339 xr_8cd0fd39 ⟨_, rfl, (aw_cpG xf_0071bfe9 (aw_cpG xf_cb2d6c4c (aw_cpG xf_4db91ee2 (aw_cpG xf_86e5cd47 (aw_cpG xf_57a2ec66 (aw_cpG xf_9cfe3fc3 hG3_)))))), fun k i hk => ?_, fun f hf => ?_⟩
    · rw [aw_cp_o (by omega), aw_cp_o (by omega), aw_cp_o (by omega), aw_cp_o (by omega), aw_cp_o (by omega), aw_cp_o (by omega), hs_u1_ne (by omega), hs_u1_ne (by omega), hs_u1_ne (by omega)]
    · rw [aw_cp_o (by decide), aw_cp_o (by decide), aw_cp_i (by omega), aw_cp_o (by decide), aw_cp_o (by decide), aw_cp_o (by decide), hs_u1_ne (by omega), hs_u1_ne (by omega), hs_u1_ne (by omega)]
  obtain ⟨o, hC, w', rfl, a⟩ := h
  exact ⟨w', hC, a⟩
theorem jcp_84_33 {w : cm_W} (hG : sv_w sg w) : ∃ w' : cm_W, cm_C 1 72 [.inr (.inr (some 84)), .inr (.inr (some 33))] w (none, w') ∧ sv_w sg w' ∧ (∀ k i, ¬ (84 ≤ k ∧ k ≤ 90) → w'.1 k i = w.1 k i) ∧ (∀ f, f < 4 → w'.1 88 f = w.1 37 f) := by
  have h : ∃ o, cm_C (0 + 1) 72 [.inr (.inr (some 84)), .inr (.inr (some 33))] w o ∧ (fun o : cm_O => ∃ w', o = (none, w') ∧ sv_w sg w' ∧ (∀ k i, ¬ (84 ≤ k ∧ k ≤ 90) → w'.1 k i = w.1 k i) ∧ (∀ f, f < 4 → w'.1 88 f = w.1 37 f)) o := by
    refine wk_entry (by rw [xm_226784a6]; exact Nat.le_of_ble_eq_true rfl) ?_
    rw [show cm_ent 72 [.inr (.inr (some 84)), .inr (.inr (some 33))] = [some (.inr (.inr (some 84))), some (.inr (.inr (some 33)))] from by unfold cm_ent; rw [xm_226784a6]; rfl]
    refine wk_aload_n xd_f207e404 rfl ?_
    refine wk_aload_n xd_54142760 rfl ?_
    refine wk_getI xf_3d7a127e xd_956f11b0 ?_
    refine wk_putI xf_62053053 (fun ci => wk_fitI ci) xd_e2ee4121 ?_
    have hG1_ : sv_w sg (cm_u1 w 84 1 (w.1 33 1)) := sv_w_u1 hG (by rw [xg_1ffe64ff]; exact sv_in_top _)
    refine wk_aload_n xd_f2bea722 rfl ?_
    refine wk_aload_n xd_54ad6446 rfl ?_
    refine wk_getI xf_93b80099 xd_4b627024 ?_
    refine wk_putI xf_ccc722b4 (fun ci => wk_fitI ci) xd_c75e6a4e ?_
    have hG2_ : sv_w sg (cm_u1 (cm_u1 w 84 1 (w.1 33 1)) 84 2 ((cm_u1 w 84 1 (w.1 33 1)).1 33 2)) := sv_w_u1 hG1_ (by rw [xg_f4c9dffc]; exact sv_in_top _)
    refine wk_aload_n xd_623d6ccc rfl ?_
    refine wk_aload_n xd_c42eafa8 rfl ?_
    refine wk_getI xf_f7f184bd xd_777cb15a ?_
    refine wk_putI xf_a88ea690 (fun ci => wk_fitI ci) xd_b57af322 ?_
    have hG3_ : sv_w sg (cm_u1 (cm_u1 (cm_u1 w 84 1 (w.1 33 1)) 84 2 ((cm_u1 w 84 1 (w.1 33 1)).1 33 2)) 84 3 ((cm_u1 (cm_u1 w 84 1 (w.1 33 1)) 84 2 ((cm_u1 w 84 1 (w.1 33 1)).1 33 2)).1 33 3)) := sv_w_u1 hG2_ (by rw [xg_1b0bb4c2]; exact sv_in_top _)
    refine wk_aload_n xd_ead53fbd rfl ?_
    refine wk_getR xf_6558dbb5 xd_b45cc7e4 ?_
    refine wk_iconst xd_a51768c8 ?_
    refine wk_aload_n xd_4c231e6c rfl ?_
    refine wk_getR xf_8fba29ee xd_f9f4ac92 ?_
    refine wk_iconst xd_be5f095c ?_
    refine wk_bipush xd_b4989d86 ?_
    refine aw_acp (n := 16) xl_cbb5c3e5 xf_02a0ab6b (by decide) (by decide) (by decide) rfl xd_4e091714 ?_
    refine wk_aload_n xd_f06652fb rfl ?_
    refine wk_getR xf_73b645bc xd_33b325d7 ?_
    refine wk_iconst xd_c8e691f2 ?_
    refine wk_aload_n xd_6788445d rfl ?_
    refine wk_getR xf_f90802ac xd_6d85ff22 ?_
    refine wk_iconst xd_48dd1ab2 ?_
    refine wk_bipush xd_30ebd4e8 ?_
    refine aw_acp (n := 16) xl_cbb5c3e5 xf_f6fec61c (by decide) (by decide) (by decide) rfl xd_352d5499 ?_
    refine wk_aload_n xd_dbcd08ca rfl ?_
    refine wk_getR xf_6f2ca336 xd_72089d04 ?_
    refine wk_iconst xd_d3aef066 ?_
    refine wk_aload_n xd_7d3b291b rfl ?_
    refine wk_getR xf_85ce516d xd_de69aa09 ?_
    refine wk_iconst xd_2570421b ?_
    refine wk_bipush xd_2fb7d6c1 ?_
    refine aw_acp (n := 16) xl_cbb5c3e5 xf_e55c3b43 (by decide) (by decide) (by decide) rfl xd_83ea783c ?_
    refine wk_aload_n xd_1845a983 rfl ?_
    refine wk_getR xf_ed92ca0d xd_b2f01c41 ?_
    refine wk_iconst xd_be03a8cf ?_
    refine wk_aload_n xd_3f96ed75 rfl ?_
    refine wk_getR xf_fd9634e6 xd_ecc6c6b4 ?_
    refine wk_iconst xd_3e38238f ?_
    refine wk_iconst xd_dc90e18f ?_
    refine aw_acp (n := 16) xl_cbb5c3e5 xf_ee4c3c3d (by decide) (by decide) (by decide) rfl xd_a3bffc94 ?_
    refine wk_aload_n xd_975a57a2 rfl ?_
    refine wk_getR xf_47e9db2d xd_0c478f50 ?_
    refine wk_iconst xd_94a2e047 ?_
    refine wk_aload_n xd_dc660409 rfl ?_
    refine wk_getR xf_ad0b2976 xd_7e7ac612 ?_
    refine wk_iconst xd_4458fd53 ?_
    refine wk_bipush xd_3c6e3309 ?_
    refine aw_acp (n := 16) xl_cbb5c3e5 xf_3f38c158 (by decide) (by decide) (by decide) rfl xd_abb6a469 ?_
    refine wk_aload_n xd_6023489e rfl ?_
    refine wk_getR xf_24a164ab xd_dec71a55 ?_
    refine wk_iconst xd_a262ae13 ?_
    refine wk_aload_n xd_5d2560f6 rfl ?_
    refine wk_getR xf_094fa4eb xd_8bfa0914 ?_
    refine wk_iconst xd_e9eb59d3 ?_
    refine wk_bipush xd_ad61e9a9 ?_
    refine aw_acp (n := 16) xl_cbb5c3e5 xf_4b3d04a8 (by decide) (by decide) (by decide) rfl xd_752b4d77 ?_
    refine wk_return xd_2112c339 xr_8cd0fd39 ⟨_, rfl, (aw_cpG xf_2092c6f3 (aw_cpG xf_a1ea9c8f (aw_cpG xf_6ab64f2a (aw_cpG xf_9be0fdff (aw_cpG xf_50bc2e5a (aw_cpG xf_d6285cf4 hG3_)))))), fun k i hk => ?_, fun f hf => ?_⟩
    · rw [aw_cp_o (by omega), aw_cp_o (by omega), aw_cp_o (by omega), aw_cp_o (by omega), aw_cp_o (by omega), aw_cp_o (by omega), hs_u1_ne (by omega), hs_u1_ne (by omega), hs_u1_ne (by omega)]
    · rw [aw_cp_o (by decide), aw_cp_o (by decide), aw_cp_i (by omega), aw_cp_o (by decide), aw_cp_o (by decide), aw_cp_o (by decide), hs_u1_ne (by omega), hs_u1_ne (by omega), hs_u1_ne (by omega)]
  obtain ⟨o, hC, w', rfl, a⟩ := h
  exact ⟨w', hC, a⟩
theorem jcp_91_33 {w : cm_W} (hG : sv_w sg w) : ∃ w' : cm_W, cm_C 1 72 [.inr (.inr (some 91)), .inr (.inr (some 33))] w (none, w') ∧ sv_w sg w' ∧ (∀ k i, ¬ (91 ≤ k ∧ k ≤ 97) → w'.1 k i = w.1 k i) ∧ (∀ f, f < 4 → w'.1 95 f = w.1 37 f) := by
  have h : ∃ o, cm_C (0 + 1) 72 [.inr (.inr (some 91)), .inr (.inr (some 33))] w o ∧ (fun o : cm_O => ∃ w', o = (none, w') ∧ sv_w sg w' ∧ (∀ k i, ¬ (91 ≤ k ∧ k ≤ 97) → w'.1 k i = w.1 k i) ∧ (∀ f, f < 4 → w'.1 95 f = w.1 37 f)) o := by
    refine wk_entry (by rw [xm_226784a6]; exact Nat.le_of_ble_eq_true rfl) ?_
    rw [show cm_ent 72 [.inr (.inr (some 91)), .inr (.inr (some 33))] = [some (.inr (.inr (some 91))), some (.inr (.inr (some 33)))] from by unfold cm_ent; rw [xm_226784a6]; rfl]
    refine wk_aload_n xd_f207e404 rfl ?_
    refine wk_aload_n xd_54142760 rfl ?_
    refine wk_getI xf_3d7a127e xd_956f11b0 ?_
    refine wk_putI xf_27309ec6 (fun ci => wk_fitI ci) xd_e2ee4121 ?_
    have hG1_ : sv_w sg (cm_u1 w 91 1 (w.1 33 1)) := sv_w_u1 hG (by rw [xg_5acbca6a]; exact sv_in_top _)
    refine wk_aload_n xd_f2bea722 rfl ?_
    refine wk_aload_n xd_54ad6446 rfl ?_
    refine wk_getI xf_93b80099 xd_4b627024 ?_
    refine wk_putI xf_89f28c21 (fun ci => wk_fitI ci) xd_c75e6a4e ?_
    have hG2_ : sv_w sg (cm_u1 (cm_u1 w 91 1 (w.1 33 1)) 91 2 ((cm_u1 w 91 1 (w.1 33 1)).1 33 2)) := sv_w_u1 hG1_ (by rw [xg_b1fc7169]; exact sv_in_top _)
    refine wk_aload_n xd_623d6ccc rfl ?_
    refine wk_aload_n xd_c42eafa8 rfl ?_
    refine wk_getI xf_f7f184bd xd_777cb15a ?_
    refine wk_putI xf_edbb0805 (fun ci => wk_fitI ci) xd_b57af322 ?_
    have hG3_ : sv_w sg (cm_u1 (cm_u1 (cm_u1 w 91 1 (w.1 33 1)) 91 2 ((cm_u1 w 91 1 (w.1 33 1)).1 33 2)) 91 3 ((cm_u1 (cm_u1 w 91 1 (w.1 33 1)) 91 2 ((cm_u1 w 91 1 (w.1 33 1)).1 33 2)).1 33 3)) := sv_w_u1 hG2_ (by rw [xg_5e3e1a57]; exact sv_in_top _)
    refine wk_aload_n xd_ead53fbd rfl ?_
    refine wk_getR xf_6558dbb5 xd_b45cc7e4 ?_
    refine wk_iconst xd_a51768c8 ?_
    refine wk_aload_n xd_4c231e6c rfl ?_
    refine wk_getR xf_342b783c xd_f9f4ac92 ?_
    refine wk_iconst xd_be5f095c ?_
    refine wk_bipush xd_b4989d86 ?_
    refine aw_acp (n := 16) xl_cbb5c3e5 xf_78ff985d (by decide) (by decide) (by decide) rfl xd_4e091714 ?_
    refine wk_aload_n xd_f06652fb rfl ?_
    refine wk_getR xf_73b645bc xd_33b325d7 ?_
    refine wk_iconst xd_c8e691f2 ?_
    refine wk_aload_n xd_6788445d rfl ?_
    refine wk_getR xf_22c5e635 xd_6d85ff22 ?_
    refine wk_iconst xd_48dd1ab2 ?_
    refine wk_bipush xd_30ebd4e8 ?_
    refine aw_acp (n := 16) xl_cbb5c3e5 xf_0b01d049 (by decide) (by decide) (by decide) rfl xd_352d5499 ?_
    refine wk_aload_n xd_dbcd08ca rfl ?_
    refine wk_getR xf_6f2ca336 xd_72089d04 ?_
    refine wk_iconst xd_d3aef066 ?_
    refine wk_aload_n xd_7d3b291b rfl ?_
    refine wk_getR xf_fee66a29 xd_de69aa09 ?_
    refine wk_iconst xd_2570421b ?_
    refine wk_bipush xd_2fb7d6c1 ?_
    refine aw_acp (n := 16) xl_cbb5c3e5 xf_4b3244f2 (by decide) (by decide) (by decide) rfl xd_83ea783c ?_
    refine wk_aload_n xd_1845a983 rfl ?_
    refine wk_getR xf_ed92ca0d xd_b2f01c41 ?_
    refine wk_iconst xd_be03a8cf ?_
    refine wk_aload_n xd_3f96ed75 rfl ?_
    refine wk_getR xf_7c580312 xd_ecc6c6b4 ?_
    refine wk_iconst xd_3e38238f ?_
    refine wk_iconst xd_dc90e18f ?_
    refine aw_acp (n := 16) xl_cbb5c3e5 xf_60a0b527 (by decide) (by decide) (by decide) rfl xd_a3bffc94 ?_
    refine wk_aload_n xd_975a57a2 rfl ?_
    refine wk_getR xf_47e9db2d xd_0c478f50 ?_
    refine wk_iconst xd_94a2e047 ?_
    refine wk_aload_n xd_dc660409 rfl ?_
    refine wk_getR xf_4c99abc9 xd_7e7ac612 ?_
    refine wk_iconst xd_4458fd53 ?_
    refine wk_bipush xd_3c6e3309 ?_
    refine aw_acp (n := 16) xl_cbb5c3e5 xf_36746d21 (by decide) (by decide) (by decide) rfl xd_abb6a469 ?_
    refine wk_aload_n xd_6023489e rfl ?_
    refine wk_getR xf_24a164ab xd_dec71a55 ?_
    refine wk_iconst xd_a262ae13 ?_
    refine wk_aload_n xd_5d2560f6 rfl ?_
    refine wk_getR xf_2fd1144f xd_8bfa0914 ?_
    refine wk_iconst xd_e9eb59d3 ?_
    refine wk_bipush xd_ad61e9a9 ?_
    refine aw_acp (n := 16) xl_cbb5c3e5 xf_6baf78e3 (by decide) (by decide) (by decide) rfl xd_752b4d77 ?_
    refine wk_return xd_2112c339 xr_8cd0fd39 ⟨_, rfl, (aw_cpG xf_3d97f64b (aw_cpG xf_f6cb25ee (aw_cpG xf_705f5740 (aw_cpG xf_bb0384e5 (aw_cpG xf_a606b45d (aw_cpG xf_6d5a67f8 hG3_)))))), fun k i hk => ?_, fun f hf => ?_⟩
    · rw [aw_cp_o (by omega), aw_cp_o (by omega), aw_cp_o (by omega), aw_cp_o (by omega), aw_cp_o (by omega), aw_cp_o (by omega), hs_u1_ne (by omega), hs_u1_ne (by omega), hs_u1_ne (by omega)]
    · rw [aw_cp_o (by decide), aw_cp_o (by decide), aw_cp_i (by omega), aw_cp_o (by decide), aw_cp_o (by decide), aw_cp_o (by decide), hs_u1_ne (by omega), hs_u1_ne (by omega), hs_u1_ne (by omega)]
  obtain ⟨o, hC, w', rfl, a⟩ := h
  exact ⟨w', hC, a⟩
theorem jcp_98_33 {w : cm_W} (hG : sv_w sg w) : ∃ w' : cm_W, cm_C 1 72 [.inr (.inr (some 98)), .inr (.inr (some 33))] w (none, w') ∧ sv_w sg w' ∧ (∀ k i, ¬ (98 ≤ k ∧ k ≤ 104) → w'.1 k i = w.1 k i) ∧ (∀ f, f < 4 → w'.1 102 f = w.1 37 f) := by
  have h : ∃ o, cm_C (0 + 1) 72 [.inr (.inr (some 98)), .inr (.inr (some 33))] w o ∧ (fun o : cm_O => ∃ w', o = (none, w') ∧ sv_w sg w' ∧ (∀ k i, ¬ (98 ≤ k ∧ k ≤ 104) → w'.1 k i = w.1 k i) ∧ (∀ f, f < 4 → w'.1 102 f = w.1 37 f)) o := by
    refine wk_entry (by rw [xm_226784a6]; exact Nat.le_of_ble_eq_true rfl) ?_
    rw [show cm_ent 72 [.inr (.inr (some 98)), .inr (.inr (some 33))] = [some (.inr (.inr (some 98))), some (.inr (.inr (some 33)))] from by unfold cm_ent; rw [xm_226784a6]; rfl]
    refine wk_aload_n xd_f207e404 rfl ?_
    refine wk_aload_n xd_54142760 rfl ?_
    refine wk_getI xf_3d7a127e xd_956f11b0 ?_
    refine wk_putI xf_ba99a457 (fun ci => wk_fitI ci) xd_e2ee4121 ?_
    have hG1_ : sv_w sg (cm_u1 w 98 1 (w.1 33 1)) := sv_w_u1 hG (by rw [xg_c762f0fb]; exact sv_in_top _)
    refine wk_aload_n xd_f2bea722 rfl ?_
    refine wk_aload_n xd_54ad6446 rfl ?_
    refine wk_getI xf_93b80099 xd_4b627024 ?_
    refine wk_putI xf_145bb6b0 (fun ci => wk_fitI ci) xd_c75e6a4e ?_
    have hG2_ : sv_w sg (cm_u1 (cm_u1 w 98 1 (w.1 33 1)) 98 2 ((cm_u1 w 98 1 (w.1 33 1)).1 33 2)) := sv_w_u1 hG1_ (by rw [xg_2c554bf8]; exact sv_in_top _)
    refine wk_aload_n xd_623d6ccc rfl ?_
    refine wk_aload_n xd_c42eafa8 rfl ?_
    refine wk_getI xf_f7f184bd xd_777cb15a ?_
    refine wk_putI xf_70123294 (fun ci => wk_fitI ci) xd_b57af322 ?_
    have hG3_ : sv_w sg (cm_u1 (cm_u1 (cm_u1 w 98 1 (w.1 33 1)) 98 2 ((cm_u1 w 98 1 (w.1 33 1)).1 33 2)) 98 3 ((cm_u1 (cm_u1 w 98 1 (w.1 33 1)) 98 2 ((cm_u1 w 98 1 (w.1 33 1)).1 33 2)).1 33 3)) := sv_w_u1 hG2_ (by rw [xg_c39720c6]; exact sv_in_top _)
    refine wk_aload_n xd_ead53fbd rfl ?_
    refine wk_getR xf_6558dbb5 xd_b45cc7e4 ?_
    refine wk_iconst xd_a51768c8 ?_
    refine wk_aload_n xd_4c231e6c rfl ?_
    refine wk_getR xf_0da15a42 xd_f9f4ac92 ?_
    refine wk_iconst xd_be5f095c ?_
    refine wk_bipush xd_b4989d86 ?_
    refine aw_acp (n := 16) xl_cbb5c3e5 xf_2224b3e0 (by decide) (by decide) (by decide) rfl xd_4e091714 ?_
    refine wk_aload_n xd_f06652fb rfl ?_
    refine wk_getR xf_73b645bc xd_33b325d7 ?_
    refine wk_iconst xd_c8e691f2 ?_
    refine wk_aload_n xd_6788445d rfl ?_
    refine wk_getR xf_e0a7cdc0 xd_6d85ff22 ?_
    refine wk_iconst xd_48dd1ab2 ?_
    refine wk_bipush xd_30ebd4e8 ?_
    refine aw_acp (n := 16) xl_cbb5c3e5 xf_eb43c58e (by decide) (by decide) (by decide) rfl xd_352d5499 ?_
    refine wk_aload_n xd_dbcd08ca rfl ?_
    refine wk_getR xf_6f2ca336 xd_72089d04 ?_
    refine wk_iconst xd_d3aef066 ?_
    refine wk_aload_n xd_7d3b291b rfl ?_
    refine wk_getR xf_4c21c146 xd_de69aa09 ?_
    refine wk_iconst xd_2570421b ?_
    refine wk_bipush xd_2fb7d6c1 ?_
    refine aw_acp (n := 16) xl_cbb5c3e5 xf_f8e138d1 (by decide) (by decide) (by decide) rfl xd_83ea783c ?_
    refine wk_aload_n xd_1845a983 rfl ?_
    refine wk_getR xf_ed92ca0d xd_b2f01c41 ?_
    refine wk_iconst xd_be03a8cf ?_
    refine wk_aload_n xd_3f96ed75 rfl ?_
    refine wk_getR xf_dd6d1bb3 xd_ecc6c6b4 ?_
    refine wk_iconst xd_3e38238f ?_
    refine wk_iconst xd_dc90e18f ?_
    refine aw_acp (n := 16) xl_cbb5c3e5 xf_54d3ec67 (by decide) (by decide) (by decide) rfl xd_a3bffc94 ?_
    refine wk_aload_n xd_975a57a2 rfl ?_
    refine wk_getR xf_47e9db2d xd_0c478f50 ?_
    refine wk_iconst xd_94a2e047 ?_
    refine wk_aload_n xd_dc660409 rfl ?_
    refine wk_getR xf_6dab2d19 xd_7e7ac612 ?_
    refine wk_iconst xd_4458fd53 ?_
    refine wk_bipush xd_3c6e3309 ?_
    refine aw_acp (n := 16) xl_cbb5c3e5 xf_85a71102 (by decide) (by decide) (by decide) rfl xd_abb6a469 ?_
    refine wk_aload_n xd_6023489e rfl ?_
    refine wk_getR xf_24a164ab xd_dec71a55 ?_
    refine wk_iconst xd_a262ae13 ?_
    refine wk_aload_n xd_5d2560f6 rfl ?_
    refine wk_getR xf_896fa49d xd_8bfa0914 ?_
    refine wk_iconst xd_e9eb59d3 ?_
    refine wk_bipush xd_ad61e9a9 ?_
    refine aw_acp (n := 16) xl_cbb5c3e5 xf_6e4f6de5 (by decide) (by decide) (by decide) rfl xd_752b4d77 ?_
    refine wk_return xd_2112c339 xr_8cd0fd39 ⟨_, rfl, (aw_cpG xf_9c1354da (aw_cpG xf_81166462 (aw_cpG xf_4a4ab7c7 (aw_cpG xf_ccdec569 (aw_cpG xf_078216cc (aw_cpG xf_079d973b hG3_)))))), fun k i hk => ?_, fun f hf => ?_⟩
    · rw [aw_cp_o (by omega), aw_cp_o (by omega), aw_cp_o (by omega), aw_cp_o (by omega), aw_cp_o (by omega), aw_cp_o (by omega), hs_u1_ne (by omega), hs_u1_ne (by omega), hs_u1_ne (by omega)]
    · rw [aw_cp_o (by decide), aw_cp_o (by decide), aw_cp_i (by omega), aw_cp_o (by decide), aw_cp_o (by decide), aw_cp_o (by decide), hs_u1_ne (by omega), hs_u1_ne (by omega), hs_u1_ne (by omega)]
  obtain ⟨o, hC, w', rfl, a⟩ := h
  exact ⟨w', hC, a⟩
theorem jcp_33_49 {w : cm_W} (hG : sv_w sg w) : ∃ w' : cm_W, cm_C 1 72 [.inr (.inr (some 33)), .inr (.inr (some 49))] w (none, w') ∧ sv_w sg w' ∧ (∀ k i, ¬ (33 ≤ k ∧ k ≤ 39) → w'.1 k i = w.1 k i) ∧ (∀ f, f < 4 → w'.1 37 f = w.1 53 f) := by
  have h : ∃ o, cm_C (0 + 1) 72 [.inr (.inr (some 33)), .inr (.inr (some 49))] w o ∧ (fun o : cm_O => ∃ w', o = (none, w') ∧ sv_w sg w' ∧ (∀ k i, ¬ (33 ≤ k ∧ k ≤ 39) → w'.1 k i = w.1 k i) ∧ (∀ f, f < 4 → w'.1 37 f = w.1 53 f)) o := by
    refine wk_entry (by rw [xm_226784a6]; exact Nat.le_of_ble_eq_true rfl) ?_
    rw [show cm_ent 72 [.inr (.inr (some 33)), .inr (.inr (some 49))] = [some (.inr (.inr (some 33))), some (.inr (.inr (some 49)))] from by unfold cm_ent; rw [xm_226784a6]; rfl]
    refine wk_aload_n xd_f207e404 rfl ?_
    refine wk_aload_n xd_54142760 rfl ?_
    refine wk_getI xf_aa3efc47 xd_956f11b0 ?_
    refine wk_putI xf_f154667f (fun ci => wk_fitI ci) xd_e2ee4121 ?_
    have hG1_ : sv_w sg (cm_u1 w 33 1 (w.1 49 1)) := sv_w_u1 hG (by rw [xg_8caf32d3]; exact sv_in_top _)
    refine wk_aload_n xd_f2bea722 rfl ?_
    refine wk_aload_n xd_54ad6446 rfl ?_
    refine wk_getI xf_04fceea0 xd_4b627024 ?_
    refine wk_putI xf_5f967498 (fun ci => wk_fitI ci) xd_c75e6a4e ?_
    have hG2_ : sv_w sg (cm_u1 (cm_u1 w 33 1 (w.1 49 1)) 33 2 ((cm_u1 w 33 1 (w.1 49 1)).1 49 2)) := sv_w_u1 hG1_ (by rw [xg_679889d0]; exact sv_in_top _)
    refine wk_aload_n xd_623d6ccc rfl ?_
    refine wk_aload_n xd_c42eafa8 rfl ?_
    refine wk_getI xf_60b56a84 xd_777cb15a ?_
    refine wk_putI xf_3bdff0bc (fun ci => wk_fitI ci) xd_b57af322 ?_
    have hG3_ : sv_w sg (cm_u1 (cm_u1 (cm_u1 w 33 1 (w.1 49 1)) 33 2 ((cm_u1 w 33 1 (w.1 49 1)).1 49 2)) 33 3 ((cm_u1 (cm_u1 w 33 1 (w.1 49 1)) 33 2 ((cm_u1 w 33 1 (w.1 49 1)).1 49 2)).1 49 3)) := sv_w_u1 hG2_ (by rw [xg_885ae2ee]; exact sv_in_top _)
    refine wk_aload_n xd_ead53fbd rfl ?_
    refine wk_getR xf_c1724772 xd_b45cc7e4 ?_
    refine wk_iconst xd_a51768c8 ?_
    refine wk_aload_n xd_4c231e6c rfl ?_
    refine wk_getR xf_6558dbb5 xd_f9f4ac92 ?_
    refine wk_iconst xd_be5f095c ?_
    refine wk_bipush xd_b4989d86 ?_
    refine aw_acp (n := 16) xl_cbb5c3e5 xf_21390fc0 (by decide) (by decide) (by decide) rfl xd_4e091714 ?_
    refine wk_aload_n xd_f06652fb rfl ?_
    refine wk_getR xf_d79cd97b xd_33b325d7 ?_
    refine wk_iconst xd_c8e691f2 ?_
    refine wk_aload_n xd_6788445d rfl ?_
    refine wk_getR xf_73b645bc xd_6d85ff22 ?_
    refine wk_iconst xd_48dd1ab2 ?_
    refine wk_bipush xd_30ebd4e8 ?_
    refine aw_acp (n := 16) xl_cbb5c3e5 xf_52c747d4 (by decide) (by decide) (by decide) rfl xd_352d5499 ?_
    refine wk_aload_n xd_dbcd08ca rfl ?_
    refine wk_getR xf_cb063ff1 xd_72089d04 ?_
    refine wk_iconst xd_d3aef066 ?_
    refine wk_aload_n xd_7d3b291b rfl ?_
    refine wk_getR xf_6f2ca336 xd_de69aa09 ?_
    refine wk_iconst xd_2570421b ?_
    refine wk_bipush xd_2fb7d6c1 ?_
    refine aw_acp (n := 16) xl_cbb5c3e5 xf_c6c59fe8 (by decide) (by decide) (by decide) rfl xd_83ea783c ?_
    refine wk_aload_n xd_1845a983 rfl ?_
    refine wk_getR xf_49b856ca xd_b2f01c41 ?_
    refine wk_iconst xd_be03a8cf ?_
    refine wk_aload_n xd_3f96ed75 rfl ?_
    refine wk_getR xf_ed92ca0d xd_ecc6c6b4 ?_
    refine wk_iconst xd_3e38238f ?_
    refine wk_iconst xd_dc90e18f ?_
    refine aw_acp (n := 16) xl_cbb5c3e5 xf_ed576e3d (by decide) (by decide) (by decide) rfl xd_a3bffc94 ?_
    refine wk_aload_n xd_975a57a2 rfl ?_
    refine wk_getR xf_b9c09487 xd_0c478f50 ?_
    refine wk_iconst xd_94a2e047 ?_
    refine wk_aload_n xd_dc660409 rfl ?_
    refine wk_getR xf_47e9db2d xd_7e7ac612 ?_
    refine wk_iconst xd_4458fd53 ?_
    refine wk_bipush xd_3c6e3309 ?_
    refine aw_acp (n := 16) xl_cbb5c3e5 xf_46a2b69e (by decide) (by decide) (by decide) rfl xd_abb6a469 ?_
    refine wk_aload_n xd_6023489e rfl ?_
    refine wk_getR xf_da882b01 xd_dec71a55 ?_
    refine wk_iconst xd_a262ae13 ?_
    refine wk_aload_n xd_5d2560f6 rfl ?_
    refine wk_getR xf_24a164ab xd_8bfa0914 ?_
    refine wk_iconst xd_e9eb59d3 ?_
    refine wk_bipush xd_ad61e9a9 ?_
    refine aw_acp (n := 16) xl_cbb5c3e5 xf_30010025 (by decide) (by decide) (by decide) rfl xd_752b4d77 ?_
    refine wk_return xd_2112c339 xr_8cd0fd39 ⟨_, rfl, (aw_cpG xf_a3edc875 (aw_cpG xf_68b11bd0 (aw_cpG xf_99e7a905 (aw_cpG xf_52bb7aa0 (aw_cpG xf_d42f080e (aw_cpG xf_1f73dbab hG3_)))))), fun k i hk => ?_, fun f hf => ?_⟩
    · rw [aw_cp_o (by omega), aw_cp_o (by omega), aw_cp_o (by omega), aw_cp_o (by omega), aw_cp_o (by omega), aw_cp_o (by omega), hs_u1_ne (by omega), hs_u1_ne (by omega), hs_u1_ne (by omega)]
    · rw [aw_cp_o (by decide), aw_cp_o (by decide), aw_cp_i (by omega), aw_cp_o (by decide), aw_cp_o (by decide), aw_cp_o (by decide), hs_u1_ne (by omega), hs_u1_ne (by omega), hs_u1_ne (by omega)]
  obtain ⟨o, hC, w', rfl, a⟩ := h
  exact ⟨w', hC, a⟩
theorem jcp_33_56 {w : cm_W} (hG : sv_w sg w) : ∃ w' : cm_W, cm_C 1 72 [.inr (.inr (some 33)), .inr (.inr (some 56))] w (none, w') ∧ sv_w sg w' ∧ (∀ k i, ¬ (33 ≤ k ∧ k ≤ 39) → w'.1 k i = w.1 k i) ∧ (∀ f, f < 4 → w'.1 37 f = w.1 60 f) := by
  have h : ∃ o, cm_C (0 + 1) 72 [.inr (.inr (some 33)), .inr (.inr (some 56))] w o ∧ (fun o : cm_O => ∃ w', o = (none, w') ∧ sv_w sg w' ∧ (∀ k i, ¬ (33 ≤ k ∧ k ≤ 39) → w'.1 k i = w.1 k i) ∧ (∀ f, f < 4 → w'.1 37 f = w.1 60 f)) o := by
    refine wk_entry (by rw [xm_226784a6]; exact Nat.le_of_ble_eq_true rfl) ?_
    rw [show cm_ent 72 [.inr (.inr (some 33)), .inr (.inr (some 56))] = [some (.inr (.inr (some 33))), some (.inr (.inr (some 56)))] from by unfold cm_ent; rw [xm_226784a6]; rfl]
    refine wk_aload_n xd_f207e404 rfl ?_
    refine wk_aload_n xd_54142760 rfl ?_
    refine wk_getI xf_053cbab3 xd_956f11b0 ?_
    refine wk_putI xf_f154667f (fun ci => wk_fitI ci) xd_e2ee4121 ?_
    have hG1_ : sv_w sg (cm_u1 w 33 1 (w.1 56 1)) := sv_w_u1 hG (by rw [xg_8caf32d3]; exact sv_in_top _)
    refine wk_aload_n xd_f2bea722 rfl ?_
    refine wk_aload_n xd_54ad6446 rfl ?_
    refine wk_getI xf_abfea854 xd_4b627024 ?_
    refine wk_putI xf_5f967498 (fun ci => wk_fitI ci) xd_c75e6a4e ?_
    have hG2_ : sv_w sg (cm_u1 (cm_u1 w 33 1 (w.1 56 1)) 33 2 ((cm_u1 w 33 1 (w.1 56 1)).1 56 2)) := sv_w_u1 hG1_ (by rw [xg_679889d0]; exact sv_in_top _)
    refine wk_aload_n xd_623d6ccc rfl ?_
    refine wk_aload_n xd_c42eafa8 rfl ?_
    refine wk_getI xf_cfb72c70 xd_777cb15a ?_
    refine wk_putI xf_3bdff0bc (fun ci => wk_fitI ci) xd_b57af322 ?_
    have hG3_ : sv_w sg (cm_u1 (cm_u1 (cm_u1 w 33 1 (w.1 56 1)) 33 2 ((cm_u1 w 33 1 (w.1 56 1)).1 56 2)) 33 3 ((cm_u1 (cm_u1 w 33 1 (w.1 56 1)) 33 2 ((cm_u1 w 33 1 (w.1 56 1)).1 56 2)).1 56 3)) := sv_w_u1 hG2_ (by rw [xg_885ae2ee]; exact sv_in_top _)
    refine wk_aload_n xd_ead53fbd rfl ?_
    refine wk_getR xf_9af9eca2 xd_b45cc7e4 ?_
    refine wk_iconst xd_a51768c8 ?_
    refine wk_aload_n xd_4c231e6c rfl ?_
    refine wk_getR xf_6558dbb5 xd_f9f4ac92 ?_
    refine wk_iconst xd_be5f095c ?_
    refine wk_bipush xd_b4989d86 ?_
    refine aw_acp (n := 16) xl_cbb5c3e5 xf_5c4a0998 (by decide) (by decide) (by decide) rfl xd_4e091714 ?_
    refine wk_aload_n xd_f06652fb rfl ?_
    refine wk_getR xf_76f17e1b xd_33b325d7 ?_
    refine wk_iconst xd_c8e691f2 ?_
    refine wk_aload_n xd_6788445d rfl ?_
    refine wk_getR xf_73b645bc xd_6d85ff22 ?_
    refine wk_iconst xd_48dd1ab2 ?_
    refine wk_bipush xd_30ebd4e8 ?_
    refine aw_acp (n := 16) xl_cbb5c3e5 xf_d5524d3c (by decide) (by decide) (by decide) rfl xd_352d5499 ?_
    refine wk_aload_n xd_dbcd08ca rfl ?_
    refine wk_getR xf_0a372dda xd_72089d04 ?_
    refine wk_iconst xd_d3aef066 ?_
    refine wk_aload_n xd_7d3b291b rfl ?_
    refine wk_getR xf_6f2ca336 xd_de69aa09 ?_
    refine wk_iconst xd_2570421b ?_
    refine wk_bipush xd_2fb7d6c1 ?_
    refine aw_acp (n := 16) xl_cbb5c3e5 xf_210c204b (by decide) (by decide) (by decide) rfl xd_83ea783c ?_
    refine wk_aload_n xd_1845a983 rfl ?_
    refine wk_getR xf_aeebb257 xd_b2f01c41 ?_
    refine wk_iconst xd_be03a8cf ?_
    refine wk_aload_n xd_3f96ed75 rfl ?_
    refine wk_getR xf_ed92ca0d xd_ecc6c6b4 ?_
    refine wk_iconst xd_3e38238f ?_
    refine wk_iconst xd_dc90e18f ?_
    refine aw_acp (n := 16) xl_cbb5c3e5 xf_2cfc2728 (by decide) (by decide) (by decide) rfl xd_a3bffc94 ?_
    refine wk_aload_n xd_975a57a2 rfl ?_
    refine wk_getR xf_fe76afc7 xd_0c478f50 ?_
    refine wk_iconst xd_94a2e047 ?_
    refine wk_aload_n xd_dc660409 rfl ?_
    refine wk_getR xf_47e9db2d xd_7e7ac612 ?_
    refine wk_iconst xd_4458fd53 ?_
    refine wk_bipush xd_3c6e3309 ?_
    refine aw_acp (n := 16) xl_cbb5c3e5 xf_27ec2056 (by decide) (by decide) (by decide) rfl xd_abb6a469 ?_
    refine wk_aload_n xd_6023489e rfl ?_
    refine wk_getR xf_fd62a50a xd_dec71a55 ?_
    refine wk_iconst xd_a262ae13 ?_
    refine wk_aload_n xd_5d2560f6 rfl ?_
    refine wk_getR xf_24a164ab xd_8bfa0914 ?_
    refine wk_iconst xd_e9eb59d3 ?_
    refine wk_bipush xd_ad61e9a9 ?_
    refine aw_acp (n := 16) xl_cbb5c3e5 xf_44b1c09c (by decide) (by decide) (by decide) rfl xd_752b4d77 ?_
    refine wk_return xd_2112c339 xr_8cd0fd39 ⟨_, rfl, (aw_cpG xf_a3edc875 (aw_cpG xf_68b11bd0 (aw_cpG xf_99e7a905 (aw_cpG xf_52bb7aa0 (aw_cpG xf_d42f080e (aw_cpG xf_1f73dbab hG3_)))))), fun k i hk => ?_, fun f hf => ?_⟩
    · rw [aw_cp_o (by omega), aw_cp_o (by omega), aw_cp_o (by omega), aw_cp_o (by omega), aw_cp_o (by omega), aw_cp_o (by omega), hs_u1_ne (by omega), hs_u1_ne (by omega), hs_u1_ne (by omega)]
    · rw [aw_cp_o (by decide), aw_cp_o (by decide), aw_cp_i (by omega), aw_cp_o (by decide), aw_cp_o (by decide), aw_cp_o (by decide), hs_u1_ne (by omega), hs_u1_ne (by omega), hs_u1_ne (by omega)]
  obtain ⟨o, hC, w', rfl, a⟩ := h
  exact ⟨w', hC, a⟩
theorem jcp_33_63 {w : cm_W} (hG : sv_w sg w) : ∃ w' : cm_W, cm_C 1 72 [.inr (.inr (some 33)), .inr (.inr (some 63))] w (none, w') ∧ sv_w sg w' ∧ (∀ k i, ¬ (33 ≤ k ∧ k ≤ 39) → w'.1 k i = w.1 k i) ∧ (∀ f, f < 4 → w'.1 37 f = w.1 67 f) := by
  have h : ∃ o, cm_C (0 + 1) 72 [.inr (.inr (some 33)), .inr (.inr (some 63))] w o ∧ (fun o : cm_O => ∃ w', o = (none, w') ∧ sv_w sg w' ∧ (∀ k i, ¬ (33 ≤ k ∧ k ≤ 39) → w'.1 k i = w.1 k i) ∧ (∀ f, f < 4 → w'.1 37 f = w.1 67 f)) o := by
    refine wk_entry (by rw [xm_226784a6]; exact Nat.le_of_ble_eq_true rfl) ?_
    rw [show cm_ent 72 [.inr (.inr (some 33)), .inr (.inr (some 63))] = [some (.inr (.inr (some 33))), some (.inr (.inr (some 63)))] from by unfold cm_ent; rw [xm_226784a6]; rfl]
    refine wk_aload_n xd_f207e404 rfl ?_
    refine wk_aload_n xd_54142760 rfl ?_
    refine wk_getI xf_2055a16d xd_956f11b0 ?_
    refine wk_putI xf_f154667f (fun ci => wk_fitI ci) xd_e2ee4121 ?_
    have hG1_ : sv_w sg (cm_u1 w 33 1 (w.1 63 1)) := sv_w_u1 hG (by rw [xg_8caf32d3]; exact sv_in_top _)
    refine wk_aload_n xd_f2bea722 rfl ?_
    refine wk_aload_n xd_54ad6446 rfl ?_
    refine wk_getI xf_8e97b38a xd_4b627024 ?_
    refine wk_putI xf_5f967498 (fun ci => wk_fitI ci) xd_c75e6a4e ?_
    have hG2_ : sv_w sg (cm_u1 (cm_u1 w 33 1 (w.1 63 1)) 33 2 ((cm_u1 w 33 1 (w.1 63 1)).1 63 2)) := sv_w_u1 hG1_ (by rw [xg_679889d0]; exact sv_in_top _)
    refine wk_aload_n xd_623d6ccc rfl ?_
    refine wk_aload_n xd_c42eafa8 rfl ?_
    refine wk_getI xf_eade37ae xd_777cb15a ?_
    refine wk_putI xf_3bdff0bc (fun ci => wk_fitI ci) xd_b57af322 ?_
    have hG3_ : sv_w sg (cm_u1 (cm_u1 (cm_u1 w 33 1 (w.1 63 1)) 33 2 ((cm_u1 w 33 1 (w.1 63 1)).1 63 2)) 33 3 ((cm_u1 (cm_u1 w 33 1 (w.1 63 1)) 33 2 ((cm_u1 w 33 1 (w.1 63 1)).1 63 2)).1 63 3)) := sv_w_u1 hG2_ (by rw [xg_885ae2ee]; exact sv_in_top _)
    refine wk_aload_n xd_ead53fbd rfl ?_
    refine wk_getR xf_ca7165c7 xd_b45cc7e4 ?_
    refine wk_iconst xd_a51768c8 ?_
    refine wk_aload_n xd_4c231e6c rfl ?_
    refine wk_getR xf_6558dbb5 xd_f9f4ac92 ?_
    refine wk_iconst xd_be5f095c ?_
    refine wk_bipush xd_b4989d86 ?_
    refine aw_acp (n := 16) xl_cbb5c3e5 xf_9de1408d (by decide) (by decide) (by decide) rfl xd_4e091714 ?_
    refine wk_aload_n xd_f06652fb rfl ?_
    refine wk_getR xf_dc9ffbce xd_33b325d7 ?_
    refine wk_iconst xd_c8e691f2 ?_
    refine wk_aload_n xd_6788445d rfl ?_
    refine wk_getR xf_73b645bc xd_6d85ff22 ?_
    refine wk_iconst xd_48dd1ab2 ?_
    refine wk_bipush xd_30ebd4e8 ?_
    refine aw_acp (n := 16) xl_cbb5c3e5 xf_ee1f0899 (by decide) (by decide) (by decide) rfl xd_352d5499 ?_
    refine wk_aload_n xd_dbcd08ca rfl ?_
    refine wk_getR xf_c0051d44 xd_72089d04 ?_
    refine wk_iconst xd_d3aef066 ?_
    refine wk_aload_n xd_7d3b291b rfl ?_
    refine wk_getR xf_6f2ca336 xd_de69aa09 ?_
    refine wk_iconst xd_2570421b ?_
    refine wk_bipush xd_2fb7d6c1 ?_
    refine aw_acp (n := 16) xl_cbb5c3e5 xf_7a1dd0a5 (by decide) (by decide) (by decide) rfl xd_83ea783c ?_
    refine wk_aload_n xd_1845a983 rfl ?_
    refine wk_getR xf_42bb747f xd_b2f01c41 ?_
    refine wk_iconst xd_be03a8cf ?_
    refine wk_aload_n xd_3f96ed75 rfl ?_
    refine wk_getR xf_ed92ca0d xd_ecc6c6b4 ?_
    refine wk_iconst xd_3e38238f ?_
    refine wk_iconst xd_dc90e18f ?_
    refine aw_acp (n := 16) xl_cbb5c3e5 xf_518f2170 (by decide) (by decide) (by decide) rfl xd_a3bffc94 ?_
    refine wk_aload_n xd_975a57a2 rfl ?_
    refine wk_getR xf_e8c0655f xd_0c478f50 ?_
    refine wk_iconst xd_94a2e047 ?_
    refine wk_aload_n xd_dc660409 rfl ?_
    refine wk_getR xf_47e9db2d xd_7e7ac612 ?_
    refine wk_iconst xd_4458fd53 ?_
    refine wk_bipush xd_3c6e3309 ?_
    refine aw_acp (n := 16) xl_cbb5c3e5 xf_a0792abe (by decide) (by decide) (by decide) rfl xd_abb6a469 ?_
    refine wk_aload_n xd_6023489e rfl ?_
    refine wk_getR xf_8b88dad9 xd_dec71a55 ?_
    refine wk_iconst xd_a262ae13 ?_
    refine wk_aload_n xd_5d2560f6 rfl ?_
    refine wk_getR xf_24a164ab xd_8bfa0914 ?_
    refine wk_iconst xd_e9eb59d3 ?_
    refine wk_bipush xd_ad61e9a9 ?_
    refine aw_acp (n := 16) xl_cbb5c3e5 xf_0b89fb71 (by decide) (by decide) (by decide) rfl xd_752b4d77 ?_
    refine wk_return xd_2112c339 xr_8cd0fd39 ⟨_, rfl, (aw_cpG xf_a3edc875 (aw_cpG xf_68b11bd0 (aw_cpG xf_99e7a905 (aw_cpG xf_52bb7aa0 (aw_cpG xf_d42f080e (aw_cpG xf_1f73dbab hG3_)))))), fun k i hk => ?_, fun f hf => ?_⟩
    · rw [aw_cp_o (by omega), aw_cp_o (by omega), aw_cp_o (by omega), aw_cp_o (by omega), aw_cp_o (by omega), aw_cp_o (by omega), hs_u1_ne (by omega), hs_u1_ne (by omega), hs_u1_ne (by omega)]
    · rw [aw_cp_o (by decide), aw_cp_o (by decide), aw_cp_i (by omega), aw_cp_o (by decide), aw_cp_o (by decide), aw_cp_o (by decide), hs_u1_ne (by omega), hs_u1_ne (by omega), hs_u1_ne (by omega)]
  obtain ⟨o, hC, w', rfl, a⟩ := h
  exact ⟨w', hC, a⟩
theorem jcp_33_70 {w : cm_W} (hG : sv_w sg w) : ∃ w' : cm_W, cm_C 1 72 [.inr (.inr (some 33)), .inr (.inr (some 70))] w (none, w') ∧ sv_w sg w' ∧ (∀ k i, ¬ (33 ≤ k ∧ k ≤ 39) → w'.1 k i = w.1 k i) ∧ (∀ f, f < 4 → w'.1 37 f = w.1 74 f) := by
  have h : ∃ o, cm_C (0 + 1) 72 [.inr (.inr (some 33)), .inr (.inr (some 70))] w o ∧ (fun o : cm_O => ∃ w', o = (none, w') ∧ sv_w sg w' ∧ (∀ k i, ¬ (33 ≤ k ∧ k ≤ 39) → w'.1 k i = w.1 k i) ∧ (∀ f, f < 4 → w'.1 37 f = w.1 74 f)) o := by
    refine wk_entry (by rw [xm_226784a6]; exact Nat.le_of_ble_eq_true rfl) ?_
    rw [show cm_ent 72 [.inr (.inr (some 33)), .inr (.inr (some 70))] = [some (.inr (.inr (some 33))), some (.inr (.inr (some 70)))] from by unfold cm_ent; rw [xm_226784a6]; rfl]
    refine wk_aload_n xd_f207e404 rfl ?_
    refine wk_aload_n xd_54142760 rfl ?_
    refine wk_getI xf_8a5daa18 xd_956f11b0 ?_
    refine wk_putI xf_f154667f (fun ci => wk_fitI ci) xd_e2ee4121 ?_
    have hG1_ : sv_w sg (cm_u1 w 33 1 (w.1 70 1)) := sv_w_u1 hG (by rw [xg_8caf32d3]; exact sv_in_top _)
    refine wk_aload_n xd_f2bea722 rfl ?_
    refine wk_aload_n xd_54ad6446 rfl ?_
    refine wk_getI xf_249fb8ff xd_4b627024 ?_
    refine wk_putI xf_5f967498 (fun ci => wk_fitI ci) xd_c75e6a4e ?_
    have hG2_ : sv_w sg (cm_u1 (cm_u1 w 33 1 (w.1 70 1)) 33 2 ((cm_u1 w 33 1 (w.1 70 1)).1 70 2)) := sv_w_u1 hG1_ (by rw [xg_679889d0]; exact sv_in_top _)
    refine wk_aload_n xd_623d6ccc rfl ?_
    refine wk_aload_n xd_c42eafa8 rfl ?_
    refine wk_getI xf_40d63cdb xd_777cb15a ?_
    refine wk_putI xf_3bdff0bc (fun ci => wk_fitI ci) xd_b57af322 ?_
    have hG3_ : sv_w sg (cm_u1 (cm_u1 (cm_u1 w 33 1 (w.1 70 1)) 33 2 ((cm_u1 w 33 1 (w.1 70 1)).1 70 2)) 33 3 ((cm_u1 (cm_u1 w 33 1 (w.1 70 1)) 33 2 ((cm_u1 w 33 1 (w.1 70 1)).1 70 2)).1 70 3)) := sv_w_u1 hG2_ (by rw [xg_885ae2ee]; exact sv_in_top _)
    refine wk_aload_n xd_ead53fbd rfl ?_
    refine wk_getR xf_8c608a4d xd_b45cc7e4 ?_
    refine wk_iconst xd_a51768c8 ?_
    refine wk_aload_n xd_4c231e6c rfl ?_
    refine wk_getR xf_6558dbb5 xd_f9f4ac92 ?_
    refine wk_iconst xd_be5f095c ?_
    refine wk_bipush xd_b4989d86 ?_
    refine aw_acp (n := 16) xl_cbb5c3e5 xf_1dc112e8 (by decide) (by decide) (by decide) rfl xd_4e091714 ?_
    refine wk_aload_n xd_f06652fb rfl ?_
    refine wk_getR xf_fad2a10f xd_33b325d7 ?_
    refine wk_iconst xd_c8e691f2 ?_
    refine wk_aload_n xd_6788445d rfl ?_
    refine wk_getR xf_73b645bc xd_6d85ff22 ?_
    refine wk_iconst xd_48dd1ab2 ?_
    refine wk_bipush xd_30ebd4e8 ?_
    refine aw_acp (n := 16) xl_cbb5c3e5 xf_0e63efb7 (by decide) (by decide) (by decide) rfl xd_352d5499 ?_
    refine wk_aload_n xd_dbcd08ca rfl ?_
    refine wk_getR xf_8614f2ce xd_72089d04 ?_
    refine wk_iconst xd_d3aef066 ?_
    refine wk_aload_n xd_7d3b291b rfl ?_
    refine wk_getR xf_6f2ca336 xd_de69aa09 ?_
    refine wk_iconst xd_2570421b ?_
    refine wk_bipush xd_2fb7d6c1 ?_
    refine aw_acp (n := 16) xl_cbb5c3e5 xf_fa3d82c0 (by decide) (by decide) (by decide) rfl xd_83ea783c ?_
    refine wk_aload_n xd_1845a983 rfl ?_
    refine wk_getR xf_a44f4428 xd_b2f01c41 ?_
    refine wk_iconst xd_be03a8cf ?_
    refine wk_aload_n xd_3f96ed75 rfl ?_
    refine wk_getR xf_ed92ca0d xd_ecc6c6b4 ?_
    refine wk_iconst xd_3e38238f ?_
    refine wk_iconst xd_dc90e18f ?_
    refine aw_acp (n := 16) xl_cbb5c3e5 xf_714aacc8 (by decide) (by decide) (by decide) rfl xd_a3bffc94 ?_
    refine wk_aload_n xd_975a57a2 rfl ?_
    refine wk_getR xf_f4d259b8 xd_0c478f50 ?_
    refine wk_iconst xd_94a2e047 ?_
    refine wk_aload_n xd_dc660409 rfl ?_
    refine wk_getR xf_47e9db2d xd_7e7ac612 ?_
    refine wk_iconst xd_4458fd53 ?_
    refine wk_bipush xd_3c6e3309 ?_
    refine aw_acp (n := 16) xl_cbb5c3e5 xf_7a5aabb6 (by decide) (by decide) (by decide) rfl xd_abb6a469 ?_
    refine wk_aload_n xd_6023489e rfl ?_
    refine wk_getR xf_f7c65375 xd_dec71a55 ?_
    refine wk_iconst xd_a262ae13 ?_
    refine wk_aload_n xd_5d2560f6 rfl ?_
    refine wk_getR xf_24a164ab xd_8bfa0914 ?_
    refine wk_iconst xd_e9eb59d3 ?_
    refine wk_bipush xd_ad61e9a9 ?_
    refine aw_acp (n := 16) xl_cbb5c3e5 xf_e4e6946f (by decide) (by decide) (by decide) rfl xd_752b4d77 ?_
    refine wk_return xd_2112c339 xr_8cd0fd39 ⟨_, rfl, (aw_cpG xf_a3edc875 (aw_cpG xf_68b11bd0 (aw_cpG xf_99e7a905 (aw_cpG xf_52bb7aa0 (aw_cpG xf_d42f080e (aw_cpG xf_1f73dbab hG3_)))))), fun k i hk => ?_, fun f hf => ?_⟩
    · rw [aw_cp_o (by omega), aw_cp_o (by omega), aw_cp_o (by omega), aw_cp_o (by omega), aw_cp_o (by omega), aw_cp_o (by omega), hs_u1_ne (by omega), hs_u1_ne (by omega), hs_u1_ne (by omega)]
    · rw [aw_cp_o (by decide), aw_cp_o (by decide), aw_cp_i (by omega), aw_cp_o (by decide), aw_cp_o (by decide), aw_cp_o (by decide), hs_u1_ne (by omega), hs_u1_ne (by omega), hs_u1_ne (by omega)]
  obtain ⟨o, hC, w', rfl, a⟩ := h
  exact ⟨w', hC, a⟩
theorem jcp_33_77 {w : cm_W} (hG : sv_w sg w) : ∃ w' : cm_W, cm_C 1 72 [.inr (.inr (some 33)), .inr (.inr (some 77))] w (none, w') ∧ sv_w sg w' ∧ (∀ k i, ¬ (33 ≤ k ∧ k ≤ 39) → w'.1 k i = w.1 k i) ∧ (∀ f, f < 4 → w'.1 37 f = w.1 81 f) := by
  have h : ∃ o, cm_C (0 + 1) 72 [.inr (.inr (some 33)), .inr (.inr (some 77))] w o ∧ (fun o : cm_O => ∃ w', o = (none, w') ∧ sv_w sg w' ∧ (∀ k i, ¬ (33 ≤ k ∧ k ≤ 39) → w'.1 k i = w.1 k i) ∧ (∀ f, f < 4 → w'.1 37 f = w.1 81 f)) o := by
    refine wk_entry (by rw [xm_226784a6]; exact Nat.le_of_ble_eq_true rfl) ?_
    rw [show cm_ent 72 [.inr (.inr (some 33)), .inr (.inr (some 77))] = [some (.inr (.inr (some 33))), some (.inr (.inr (some 77)))] from by unfold cm_ent; rw [xm_226784a6]; rfl]
    refine wk_aload_n xd_f207e404 rfl ?_
    refine wk_aload_n xd_54142760 rfl ?_
    refine wk_getI xf_fec54397 xd_956f11b0 ?_
    refine wk_putI xf_f154667f (fun ci => wk_fitI ci) xd_e2ee4121 ?_
    have hG1_ : sv_w sg (cm_u1 w 33 1 (w.1 77 1)) := sv_w_u1 hG (by rw [xg_8caf32d3]; exact sv_in_top _)
    refine wk_aload_n xd_f2bea722 rfl ?_
    refine wk_aload_n xd_54ad6446 rfl ?_
    refine wk_getI xf_50075170 xd_4b627024 ?_
    refine wk_putI xf_5f967498 (fun ci => wk_fitI ci) xd_c75e6a4e ?_
    have hG2_ : sv_w sg (cm_u1 (cm_u1 w 33 1 (w.1 77 1)) 33 2 ((cm_u1 w 33 1 (w.1 77 1)).1 77 2)) := sv_w_u1 hG1_ (by rw [xg_679889d0]; exact sv_in_top _)
    refine wk_aload_n xd_623d6ccc rfl ?_
    refine wk_aload_n xd_c42eafa8 rfl ?_
    refine wk_getI xf_344ed554 xd_777cb15a ?_
    refine wk_putI xf_3bdff0bc (fun ci => wk_fitI ci) xd_b57af322 ?_
    have hG3_ : sv_w sg (cm_u1 (cm_u1 (cm_u1 w 33 1 (w.1 77 1)) 33 2 ((cm_u1 w 33 1 (w.1 77 1)).1 77 2)) 33 3 ((cm_u1 (cm_u1 w 33 1 (w.1 77 1)) 33 2 ((cm_u1 w 33 1 (w.1 77 1)).1 77 2)).1 77 3)) := sv_w_u1 hG2_ (by rw [xg_885ae2ee]; exact sv_in_top _)
    refine wk_aload_n xd_ead53fbd rfl ?_
    refine wk_getR xf_41cb0bee xd_b45cc7e4 ?_
    refine wk_iconst xd_a51768c8 ?_
    refine wk_aload_n xd_4c231e6c rfl ?_
    refine wk_getR xf_6558dbb5 xd_f9f4ac92 ?_
    refine wk_iconst xd_be5f095c ?_
    refine wk_bipush xd_b4989d86 ?_
    refine aw_acp (n := 16) xl_cbb5c3e5 xf_9a541800 (by decide) (by decide) (by decide) rfl xd_4e091714 ?_
    refine wk_aload_n xd_f06652fb rfl ?_
    refine wk_getR xf_572595e7 xd_33b325d7 ?_
    refine wk_iconst xd_c8e691f2 ?_
    refine wk_aload_n xd_6788445d rfl ?_
    refine wk_getR xf_73b645bc xd_6d85ff22 ?_
    refine wk_iconst xd_48dd1ab2 ?_
    refine wk_bipush xd_30ebd4e8 ?_
    refine aw_acp (n := 16) xl_cbb5c3e5 xf_e9aa5014 (by decide) (by decide) (by decide) rfl xd_352d5499 ?_
    refine wk_aload_n xd_dbcd08ca rfl ?_
    refine wk_getR xf_2774a1bd xd_72089d04 ?_
    refine wk_iconst xd_d3aef066 ?_
    refine wk_aload_n xd_7d3b291b rfl ?_
    refine wk_getR xf_6f2ca336 xd_de69aa09 ?_
    refine wk_iconst xd_2570421b ?_
    refine wk_bipush xd_2fb7d6c1 ?_
    refine aw_acp (n := 16) xl_cbb5c3e5 xf_11635af8 (by decide) (by decide) (by decide) rfl xd_83ea783c ?_
    refine wk_aload_n xd_1845a983 rfl ?_
    refine wk_getR xf_a5cac886 xd_b2f01c41 ?_
    refine wk_iconst xd_be03a8cf ?_
    refine wk_aload_n xd_3f96ed75 rfl ?_
    refine wk_getR xf_ed92ca0d xd_ecc6c6b4 ?_
    refine wk_iconst xd_3e38238f ?_
    refine wk_iconst xd_dc90e18f ?_
    refine aw_acp (n := 16) xl_cbb5c3e5 xf_3af1ab2d (by decide) (by decide) (by decide) rfl xd_a3bffc94 ?_
    refine wk_aload_n xd_975a57a2 rfl ?_
    refine wk_getR xf_950b605d xd_0c478f50 ?_
    refine wk_iconst xd_94a2e047 ?_
    refine wk_aload_n xd_dc660409 rfl ?_
    refine wk_getR xf_47e9db2d xd_7e7ac612 ?_
    refine wk_iconst xd_4458fd53 ?_
    refine wk_bipush xd_3c6e3309 ?_
    refine aw_acp (n := 16) xl_cbb5c3e5 xf_51bd1918 (by decide) (by decide) (by decide) rfl xd_abb6a469 ?_
    refine wk_aload_n xd_6023489e rfl ?_
    refine wk_getR xf_f643dfdb xd_dec71a55 ?_
    refine wk_iconst xd_a262ae13 ?_
    refine wk_aload_n xd_5d2560f6 rfl ?_
    refine wk_getR xf_24a164ab xd_8bfa0914 ?_
    refine wk_iconst xd_e9eb59d3 ?_
    refine wk_bipush xd_ad61e9a9 ?_
    refine aw_acp (n := 16) xl_cbb5c3e5 xf_34cd399f (by decide) (by decide) (by decide) rfl xd_752b4d77 ?_
    refine wk_return xd_2112c339 xr_8cd0fd39 ⟨_, rfl, (aw_cpG xf_a3edc875 (aw_cpG xf_68b11bd0 (aw_cpG xf_99e7a905 (aw_cpG xf_52bb7aa0 (aw_cpG xf_d42f080e (aw_cpG xf_1f73dbab hG3_)))))), fun k i hk => ?_, fun f hf => ?_⟩
    · rw [aw_cp_o (by omega), aw_cp_o (by omega), aw_cp_o (by omega), aw_cp_o (by omega), aw_cp_o (by omega), aw_cp_o (by omega), hs_u1_ne (by omega), hs_u1_ne (by omega), hs_u1_ne (by omega)]
    · rw [aw_cp_o (by decide), aw_cp_o (by decide), aw_cp_i (by omega), aw_cp_o (by decide), aw_cp_o (by decide), aw_cp_o (by decide), hs_u1_ne (by omega), hs_u1_ne (by omega), hs_u1_ne (by omega)]
  obtain ⟨o, hC, w', rfl, a⟩ := h
  exact ⟨w', hC, a⟩
theorem jcp_33_84 {w : cm_W} (hG : sv_w sg w) : ∃ w' : cm_W, cm_C 1 72 [.inr (.inr (some 33)), .inr (.inr (some 84))] w (none, w') ∧ sv_w sg w' ∧ (∀ k i, ¬ (33 ≤ k ∧ k ≤ 39) → w'.1 k i = w.1 k i) ∧ (∀ f, f < 4 → w'.1 37 f = w.1 88 f) := by
  have h : ∃ o, cm_C (0 + 1) 72 [.inr (.inr (some 33)), .inr (.inr (some 84))] w o ∧ (fun o : cm_O => ∃ w', o = (none, w') ∧ sv_w sg w' ∧ (∀ k i, ¬ (33 ≤ k ∧ k ≤ 39) → w'.1 k i = w.1 k i) ∧ (∀ f, f < 4 → w'.1 37 f = w.1 88 f)) o := by
    refine wk_entry (by rw [xm_226784a6]; exact Nat.le_of_ble_eq_true rfl) ?_
    rw [show cm_ent 72 [.inr (.inr (some 33)), .inr (.inr (some 84))] = [some (.inr (.inr (some 33))), some (.inr (.inr (some 84)))] from by unfold cm_ent; rw [xm_226784a6]; rfl]
    refine wk_aload_n xd_f207e404 rfl ?_
    refine wk_aload_n xd_54142760 rfl ?_
    refine wk_getI xf_ae2b4452 xd_956f11b0 ?_
    refine wk_putI xf_f154667f (fun ci => wk_fitI ci) xd_e2ee4121 ?_
    have hG1_ : sv_w sg (cm_u1 w 33 1 (w.1 84 1)) := sv_w_u1 hG (by rw [xg_8caf32d3]; exact sv_in_top _)
    refine wk_aload_n xd_f2bea722 rfl ?_
    refine wk_aload_n xd_54ad6446 rfl ?_
    refine wk_getI xf_00e956b5 xd_4b627024 ?_
    refine wk_putI xf_5f967498 (fun ci => wk_fitI ci) xd_c75e6a4e ?_
    have hG2_ : sv_w sg (cm_u1 (cm_u1 w 33 1 (w.1 84 1)) 33 2 ((cm_u1 w 33 1 (w.1 84 1)).1 84 2)) := sv_w_u1 hG1_ (by rw [xg_679889d0]; exact sv_in_top _)
    refine wk_aload_n xd_623d6ccc rfl ?_
    refine wk_aload_n xd_c42eafa8 rfl ?_
    refine wk_getI xf_64a0d291 xd_777cb15a ?_
    refine wk_putI xf_3bdff0bc (fun ci => wk_fitI ci) xd_b57af322 ?_
    have hG3_ : sv_w sg (cm_u1 (cm_u1 (cm_u1 w 33 1 (w.1 84 1)) 33 2 ((cm_u1 w 33 1 (w.1 84 1)).1 84 2)) 33 3 ((cm_u1 (cm_u1 w 33 1 (w.1 84 1)) 33 2 ((cm_u1 w 33 1 (w.1 84 1)).1 84 2)).1 84 3)) := sv_w_u1 hG2_ (by rw [xg_885ae2ee]; exact sv_in_top _)
    refine wk_aload_n xd_ead53fbd rfl ?_
    refine wk_getR xf_8fba29ee xd_b45cc7e4 ?_
    refine wk_iconst xd_a51768c8 ?_
    refine wk_aload_n xd_4c231e6c rfl ?_
    refine wk_getR xf_6558dbb5 xd_f9f4ac92 ?_
    refine wk_iconst xd_be5f095c ?_
    refine wk_bipush xd_b4989d86 ?_
    refine aw_acp (n := 16) xl_cbb5c3e5 xf_8beccc88 (by decide) (by decide) (by decide) rfl xd_4e091714 ?_
    refine wk_aload_n xd_f06652fb rfl ?_
    refine wk_getR xf_f90802ac xd_33b325d7 ?_
    refine wk_iconst xd_c8e691f2 ?_
    refine wk_aload_n xd_6788445d rfl ?_
    refine wk_getR xf_73b645bc xd_6d85ff22 ?_
    refine wk_iconst xd_48dd1ab2 ?_
    refine wk_bipush xd_30ebd4e8 ?_
    refine aw_acp (n := 16) xl_cbb5c3e5 xf_984e31d7 (by decide) (by decide) (by decide) rfl xd_352d5499 ?_
    refine wk_aload_n xd_dbcd08ca rfl ?_
    refine wk_getR xf_85ce516d xd_72089d04 ?_
    refine wk_iconst xd_d3aef066 ?_
    refine wk_aload_n xd_7d3b291b rfl ?_
    refine wk_getR xf_6f2ca336 xd_de69aa09 ?_
    refine wk_iconst xd_2570421b ?_
    refine wk_bipush xd_2fb7d6c1 ?_
    refine aw_acp (n := 16) xl_cbb5c3e5 xf_6c105ca0 (by decide) (by decide) (by decide) rfl xd_83ea783c ?_
    refine wk_aload_n xd_1845a983 rfl ?_
    refine wk_getR xf_fd9634e6 xd_b2f01c41 ?_
    refine wk_iconst xd_be03a8cf ?_
    refine wk_aload_n xd_3f96ed75 rfl ?_
    refine wk_getR xf_ed92ca0d xd_ecc6c6b4 ?_
    refine wk_iconst xd_3e38238f ?_
    refine wk_iconst xd_dc90e18f ?_
    refine aw_acp (n := 16) xl_cbb5c3e5 xf_bd64a1c5 (by decide) (by decide) (by decide) rfl xd_a3bffc94 ?_
    refine wk_aload_n xd_975a57a2 rfl ?_
    refine wk_getR xf_ad0b2976 xd_0c478f50 ?_
    refine wk_iconst xd_94a2e047 ?_
    refine wk_aload_n xd_dc660409 rfl ?_
    refine wk_getR xf_47e9db2d xd_7e7ac612 ?_
    refine wk_iconst xd_4458fd53 ?_
    refine wk_bipush xd_3c6e3309 ?_
    refine aw_acp (n := 16) xl_cbb5c3e5 xf_b674a6bb (by decide) (by decide) (by decide) rfl xd_abb6a469 ?_
    refine wk_aload_n xd_6023489e rfl ?_
    refine wk_getR xf_094fa4eb xd_dec71a55 ?_
    refine wk_iconst xd_a262ae13 ?_
    refine wk_aload_n xd_5d2560f6 rfl ?_
    refine wk_getR xf_24a164ab xd_8bfa0914 ?_
    refine wk_iconst xd_e9eb59d3 ?_
    refine wk_bipush xd_ad61e9a9 ?_
    refine aw_acp (n := 16) xl_cbb5c3e5 xf_f157c7ac (by decide) (by decide) (by decide) rfl xd_752b4d77 ?_
    refine wk_return xd_2112c339 xr_8cd0fd39 ⟨_, rfl, (aw_cpG xf_a3edc875 (aw_cpG xf_68b11bd0 (aw_cpG xf_99e7a905 (aw_cpG xf_52bb7aa0 (aw_cpG xf_d42f080e (aw_cpG xf_1f73dbab hG3_)))))), fun k i hk => ?_, fun f hf => ?_⟩
    · rw [aw_cp_o (by omega), aw_cp_o (by omega), aw_cp_o (by omega), aw_cp_o (by omega), aw_cp_o (by omega), aw_cp_o (by omega), hs_u1_ne (by omega), hs_u1_ne (by omega), hs_u1_ne (by omega)]
    · rw [aw_cp_o (by decide), aw_cp_o (by decide), aw_cp_i (by omega), aw_cp_o (by decide), aw_cp_o (by decide), aw_cp_o (by decide), hs_u1_ne (by omega), hs_u1_ne (by omega), hs_u1_ne (by omega)]
  obtain ⟨o, hC, w', rfl, a⟩ := h
  exact ⟨w', hC, a⟩
theorem jcp_33_91 {w : cm_W} (hG : sv_w sg w) : ∃ w' : cm_W, cm_C 1 72 [.inr (.inr (some 33)), .inr (.inr (some 91))] w (none, w') ∧ sv_w sg w' ∧ (∀ k i, ¬ (33 ≤ k ∧ k ≤ 39) → w'.1 k i = w.1 k i) ∧ (∀ f, f < 4 → w'.1 37 f = w.1 95 f) := by
  have h : ∃ o, cm_C (0 + 1) 72 [.inr (.inr (some 33)), .inr (.inr (some 91))] w o ∧ (fun o : cm_O => ∃ w', o = (none, w') ∧ sv_w sg w' ∧ (∀ k i, ¬ (33 ≤ k ∧ k ≤ 39) → w'.1 k i = w.1 k i) ∧ (∀ f, f < 4 → w'.1 37 f = w.1 95 f)) o := by
    refine wk_entry (by rw [xm_226784a6]; exact Nat.le_of_ble_eq_true rfl) ?_
    rw [show cm_ent 72 [.inr (.inr (some 33)), .inr (.inr (some 91))] = [some (.inr (.inr (some 33))), some (.inr (.inr (some 91)))] from by unfold cm_ent; rw [xm_226784a6]; rfl]
    refine wk_aload_n xd_f207e404 rfl ?_
    refine wk_aload_n xd_54142760 rfl ?_
    refine wk_getI xf_eb1eeac7 xd_956f11b0 ?_
    refine wk_putI xf_f154667f (fun ci => wk_fitI ci) xd_e2ee4121 ?_
    have hG1_ : sv_w sg (cm_u1 w 33 1 (w.1 91 1)) := sv_w_u1 hG (by rw [xg_8caf32d3]; exact sv_in_top _)
    refine wk_aload_n xd_f2bea722 rfl ?_
    refine wk_aload_n xd_54ad6446 rfl ?_
    refine wk_getI xf_45dcf820 xd_4b627024 ?_
    refine wk_putI xf_5f967498 (fun ci => wk_fitI ci) xd_c75e6a4e ?_
    have hG2_ : sv_w sg (cm_u1 (cm_u1 w 33 1 (w.1 91 1)) 33 2 ((cm_u1 w 33 1 (w.1 91 1)).1 91 2)) := sv_w_u1 hG1_ (by rw [xg_679889d0]; exact sv_in_top _)
    refine wk_aload_n xd_623d6ccc rfl ?_
    refine wk_aload_n xd_c42eafa8 rfl ?_
    refine wk_getI xf_21957c04 xd_777cb15a ?_
    refine wk_putI xf_3bdff0bc (fun ci => wk_fitI ci) xd_b57af322 ?_
    have hG3_ : sv_w sg (cm_u1 (cm_u1 (cm_u1 w 33 1 (w.1 91 1)) 33 2 ((cm_u1 w 33 1 (w.1 91 1)).1 91 2)) 33 3 ((cm_u1 (cm_u1 w 33 1 (w.1 91 1)) 33 2 ((cm_u1 w 33 1 (w.1 91 1)).1 91 2)).1 91 3)) := sv_w_u1 hG2_ (by rw [xg_885ae2ee]; exact sv_in_top _)
    refine wk_aload_n xd_ead53fbd rfl ?_
    refine wk_getR xf_342b783c xd_b45cc7e4 ?_
    refine wk_iconst xd_a51768c8 ?_
    refine wk_aload_n xd_4c231e6c rfl ?_
    refine wk_getR xf_6558dbb5 xd_f9f4ac92 ?_
    refine wk_iconst xd_be5f095c ?_
    refine wk_bipush xd_b4989d86 ?_
    refine aw_acp (n := 16) xl_cbb5c3e5 xf_6b902ba6 (by decide) (by decide) (by decide) rfl xd_4e091714 ?_
    refine wk_aload_n xd_f06652fb rfl ?_
    refine wk_getR xf_22c5e635 xd_33b325d7 ?_
    refine wk_iconst xd_c8e691f2 ?_
    refine wk_aload_n xd_6788445d rfl ?_
    refine wk_getR xf_73b645bc xd_6d85ff22 ?_
    refine wk_iconst xd_48dd1ab2 ?_
    refine wk_bipush xd_30ebd4e8 ?_
    refine aw_acp (n := 16) xl_cbb5c3e5 xf_186e63b2 (by decide) (by decide) (by decide) rfl xd_352d5499 ?_
    refine wk_aload_n xd_dbcd08ca rfl ?_
    refine wk_getR xf_fee66a29 xd_72089d04 ?_
    refine wk_iconst xd_d3aef066 ?_
    refine wk_aload_n xd_7d3b291b rfl ?_
    refine wk_getR xf_6f2ca336 xd_de69aa09 ?_
    refine wk_iconst xd_2570421b ?_
    refine wk_bipush xd_2fb7d6c1 ?_
    refine aw_acp (n := 16) xl_cbb5c3e5 xf_4cd5d118 (by decide) (by decide) (by decide) rfl xd_83ea783c ?_
    refine wk_aload_n xd_1845a983 rfl ?_
    refine wk_getR xf_7c580312 xd_b2f01c41 ?_
    refine wk_iconst xd_be03a8cf ?_
    refine wk_aload_n xd_3f96ed75 rfl ?_
    refine wk_getR xf_ed92ca0d xd_ecc6c6b4 ?_
    refine wk_iconst xd_3e38238f ?_
    refine wk_iconst xd_dc90e18f ?_
    refine aw_acp (n := 16) xl_cbb5c3e5 xf_674720cd (by decide) (by decide) (by decide) rfl xd_a3bffc94 ?_
    refine wk_aload_n xd_975a57a2 rfl ?_
    refine wk_getR xf_4c99abc9 xd_0c478f50 ?_
    refine wk_iconst xd_94a2e047 ?_
    refine wk_aload_n xd_dc660409 rfl ?_
    refine wk_getR xf_47e9db2d xd_7e7ac612 ?_
    refine wk_iconst xd_4458fd53 ?_
    refine wk_bipush xd_3c6e3309 ?_
    refine aw_acp (n := 16) xl_cbb5c3e5 xf_0c0b92f8 (by decide) (by decide) (by decide) rfl xd_abb6a469 ?_
    refine wk_aload_n xd_6023489e rfl ?_
    refine wk_getR xf_2fd1144f xd_dec71a55 ?_
    refine wk_iconst xd_a262ae13 ?_
    refine wk_aload_n xd_5d2560f6 rfl ?_
    refine wk_getR xf_24a164ab xd_8bfa0914 ?_
    refine wk_iconst xd_e9eb59d3 ?_
    refine wk_bipush xd_ad61e9a9 ?_
    refine aw_acp (n := 16) xl_cbb5c3e5 xf_949a6d6c (by decide) (by decide) (by decide) rfl xd_752b4d77 ?_
    refine wk_return xd_2112c339 xr_8cd0fd39 ⟨_, rfl, (aw_cpG xf_a3edc875 (aw_cpG xf_68b11bd0 (aw_cpG xf_99e7a905 (aw_cpG xf_52bb7aa0 (aw_cpG xf_d42f080e (aw_cpG xf_1f73dbab hG3_)))))), fun k i hk => ?_, fun f hf => ?_⟩
    · rw [aw_cp_o (by omega), aw_cp_o (by omega), aw_cp_o (by omega), aw_cp_o (by omega), aw_cp_o (by omega), aw_cp_o (by omega), hs_u1_ne (by omega), hs_u1_ne (by omega), hs_u1_ne (by omega)]
    · rw [aw_cp_o (by decide), aw_cp_o (by decide), aw_cp_i (by omega), aw_cp_o (by decide), aw_cp_o (by decide), aw_cp_o (by decide), hs_u1_ne (by omega), hs_u1_ne (by omega), hs_u1_ne (by omega)]
  obtain ⟨o, hC, w', rfl, a⟩ := h
  exact ⟨w', hC, a⟩
theorem jcp_33_98 {w : cm_W} (hG : sv_w sg w) : ∃ w' : cm_W, cm_C 1 72 [.inr (.inr (some 33)), .inr (.inr (some 98))] w (none, w') ∧ sv_w sg w' ∧ (∀ k i, ¬ (33 ≤ k ∧ k ≤ 39) → w'.1 k i = w.1 k i) ∧ (∀ f, f < 4 → w'.1 37 f = w.1 102 f) := by
  have h : ∃ o, cm_C (0 + 1) 72 [.inr (.inr (some 33)), .inr (.inr (some 98))] w o ∧ (fun o : cm_O => ∃ w', o = (none, w') ∧ sv_w sg w' ∧ (∀ k i, ¬ (33 ≤ k ∧ k ≤ 39) → w'.1 k i = w.1 k i) ∧ (∀ f, f < 4 → w'.1 37 f = w.1 102 f)) o := by
    refine wk_entry (by rw [xm_226784a6]; exact Nat.le_of_ble_eq_true rfl) ?_
    rw [show cm_ent 72 [.inr (.inr (some 33)), .inr (.inr (some 98))] = [some (.inr (.inr (some 33))), some (.inr (.inr (some 98)))] from by unfold cm_ent; rw [xm_226784a6]; rfl]
    refine wk_aload_n xd_f207e404 rfl ?_
    refine wk_aload_n xd_54142760 rfl ?_
    refine wk_getI xf_76b7d056 xd_956f11b0 ?_
    refine wk_putI xf_f154667f (fun ci => wk_fitI ci) xd_e2ee4121 ?_
    have hG1_ : sv_w sg (cm_u1 w 33 1 (w.1 98 1)) := sv_w_u1 hG (by rw [xg_8caf32d3]; exact sv_in_top _)
    refine wk_aload_n xd_f2bea722 rfl ?_
    refine wk_aload_n xd_54ad6446 rfl ?_
    refine wk_getI xf_d875c2b1 xd_4b627024 ?_
    refine wk_putI xf_5f967498 (fun ci => wk_fitI ci) xd_c75e6a4e ?_
    have hG2_ : sv_w sg (cm_u1 (cm_u1 w 33 1 (w.1 98 1)) 33 2 ((cm_u1 w 33 1 (w.1 98 1)).1 98 2)) := sv_w_u1 hG1_ (by rw [xg_679889d0]; exact sv_in_top _)
    refine wk_aload_n xd_623d6ccc rfl ?_
    refine wk_aload_n xd_c42eafa8 rfl ?_
    refine wk_getI xf_bc3c4695 xd_777cb15a ?_
    refine wk_putI xf_3bdff0bc (fun ci => wk_fitI ci) xd_b57af322 ?_
    have hG3_ : sv_w sg (cm_u1 (cm_u1 (cm_u1 w 33 1 (w.1 98 1)) 33 2 ((cm_u1 w 33 1 (w.1 98 1)).1 98 2)) 33 3 ((cm_u1 (cm_u1 w 33 1 (w.1 98 1)) 33 2 ((cm_u1 w 33 1 (w.1 98 1)).1 98 2)).1 98 3)) := sv_w_u1 hG2_ (by rw [xg_885ae2ee]; exact sv_in_top _)
    refine wk_aload_n xd_ead53fbd rfl ?_
    refine wk_getR xf_0da15a42 xd_b45cc7e4 ?_
    refine wk_iconst xd_a51768c8 ?_
    refine wk_aload_n xd_4c231e6c rfl ?_
    refine wk_getR xf_6558dbb5 xd_f9f4ac92 ?_
    refine wk_iconst xd_be5f095c ?_
    refine wk_bipush xd_b4989d86 ?_
    refine aw_acp (n := 16) xl_cbb5c3e5 xf_8c599405 (by decide) (by decide) (by decide) rfl xd_4e091714 ?_
    refine wk_aload_n xd_f06652fb rfl ?_
    refine wk_getR xf_e0a7cdc0 xd_33b325d7 ?_
    refine wk_iconst xd_c8e691f2 ?_
    refine wk_aload_n xd_6788445d rfl ?_
    refine wk_getR xf_73b645bc xd_6d85ff22 ?_
    refine wk_iconst xd_48dd1ab2 ?_
    refine wk_bipush xd_30ebd4e8 ?_
    refine aw_acp (n := 16) xl_cbb5c3e5 xf_60c9ae70 (by decide) (by decide) (by decide) rfl xd_352d5499 ?_
    refine wk_aload_n xd_dbcd08ca rfl ?_
    refine wk_getR xf_4c21c146 xd_72089d04 ?_
    refine wk_iconst xd_d3aef066 ?_
    refine wk_aload_n xd_7d3b291b rfl ?_
    refine wk_getR xf_6f2ca336 xd_de69aa09 ?_
    refine wk_iconst xd_2570421b ?_
    refine wk_bipush xd_2fb7d6c1 ?_
    refine aw_acp (n := 16) xl_cbb5c3e5 xf_eec52c71 (by decide) (by decide) (by decide) rfl xd_83ea783c ?_
    refine wk_aload_n xd_1845a983 rfl ?_
    refine wk_getR xf_dd6d1bb3 xd_b2f01c41 ?_
    refine wk_iconst xd_be03a8cf ?_
    refine wk_aload_n xd_3f96ed75 rfl ?_
    refine wk_getR xf_ed92ca0d xd_ecc6c6b4 ?_
    refine wk_iconst xd_3e38238f ?_
    refine wk_iconst xd_dc90e18f ?_
    refine aw_acp (n := 16) xl_cbb5c3e5 xf_8cc5323d (by decide) (by decide) (by decide) rfl xd_a3bffc94 ?_
    refine wk_aload_n xd_975a57a2 rfl ?_
    refine wk_getR xf_6dab2d19 xd_0c478f50 ?_
    refine wk_iconst xd_94a2e047 ?_
    refine wk_aload_n xd_dc660409 rfl ?_
    refine wk_getR xf_47e9db2d xd_7e7ac612 ?_
    refine wk_iconst xd_4458fd53 ?_
    refine wk_bipush xd_3c6e3309 ?_
    refine aw_acp (n := 16) xl_cbb5c3e5 xf_cfbd61ac (by decide) (by decide) (by decide) rfl xd_abb6a469 ?_
    refine wk_aload_n xd_6023489e rfl ?_
    refine wk_getR xf_896fa49d xd_dec71a55 ?_
    refine wk_iconst xd_a262ae13 ?_
    refine wk_aload_n xd_5d2560f6 rfl ?_
    refine wk_getR xf_24a164ab xd_8bfa0914 ?_
    refine wk_iconst xd_e9eb59d3 ?_
    refine wk_bipush xd_ad61e9a9 ?_
    refine aw_acp (n := 16) xl_cbb5c3e5 xf_68697866 (by decide) (by decide) (by decide) rfl xd_752b4d77 ?_
    refine wk_return xd_2112c339 xr_8cd0fd39 ⟨_, rfl, (aw_cpG xf_a3edc875 (aw_cpG xf_68b11bd0 (aw_cpG xf_99e7a905 (aw_cpG xf_52bb7aa0 (aw_cpG xf_d42f080e (aw_cpG xf_1f73dbab hG3_)))))), fun k i hk => ?_, fun f hf => ?_⟩
    · rw [aw_cp_o (by omega), aw_cp_o (by omega), aw_cp_o (by omega), aw_cp_o (by omega), aw_cp_o (by omega), aw_cp_o (by omega), hs_u1_ne (by omega), hs_u1_ne (by omega), hs_u1_ne (by omega)]
    · rw [aw_cp_o (by decide), aw_cp_o (by decide), aw_cp_i (by omega), aw_cp_o (by decide), aw_cp_o (by decide), aw_cp_o (by decide), hs_u1_ne (by omega), hs_u1_ne (by omega), hs_u1_ne (by omega)]
  obtain ⟨o, hC, w', rfl, a⟩ := h
  exact ⟨w', hC, a⟩
theorem jcp_145_33 {w : cm_W} (hG : sv_w sg w) : ∃ w' : cm_W, cm_C 1 72 [.inr (.inr (some 145)), .inr (.inr (some 33))] w (none, w') ∧ sv_w sg w' ∧ (∀ k i, ¬ (145 ≤ k ∧ k ≤ 151) → w'.1 k i = w.1 k i) ∧ (∀ f, f < 4 → w'.1 149 f = w.1 37 f) := by
  have h : ∃ o, cm_C (0 + 1) 72 [.inr (.inr (some 145)), .inr (.inr (some 33))] w o ∧ (fun o : cm_O => ∃ w', o = (none, w') ∧ sv_w sg w' ∧ (∀ k i, ¬ (145 ≤ k ∧ k ≤ 151) → w'.1 k i = w.1 k i) ∧ (∀ f, f < 4 → w'.1 149 f = w.1 37 f)) o := by
    refine wk_entry (by rw [xm_226784a6]; exact Nat.le_of_ble_eq_true rfl) ?_
    rw [show cm_ent 72 [.inr (.inr (some 145)), .inr (.inr (some 33))] = [some (.inr (.inr (some 145))), some (.inr (.inr (some 33)))] from by unfold cm_ent; rw [xm_226784a6]; rfl]
    refine wk_aload_n xd_f207e404 rfl ?_
    refine wk_aload_n xd_54142760 rfl ?_
    refine wk_getI xf_3d7a127e xd_956f11b0 ?_
    refine wk_putI xf_4e6c4647 (fun ci => wk_fitI ci) xd_e2ee4121 ?_
    have hG1_ : sv_w sg (cm_u1 w 145 1 (w.1 33 1)) := sv_w_u1 hG (by rw [xg_ace9df29]; exact sv_in_top _)
    refine wk_aload_n xd_f2bea722 rfl ?_
    refine wk_aload_n xd_54ad6446 rfl ?_
    refine wk_getI xf_93b80099 xd_4b627024 ?_
    refine wk_putI xf_02792e8c (fun ci => wk_fitI ci) xd_c75e6a4e ?_
    have hG2_ : sv_w sg (cm_u1 (cm_u1 w 145 1 (w.1 33 1)) 145 2 ((cm_u1 w 145 1 (w.1 33 1)).1 33 2)) := sv_w_u1 hG1_ (by rw [xg_47de642a]; exact sv_in_top _)
    refine wk_aload_n xd_623d6ccc rfl ?_
    refine wk_aload_n xd_c42eafa8 rfl ?_
    refine wk_getI xf_f7f184bd xd_777cb15a ?_
    refine wk_putI xf_10523727 (fun ci => wk_fitI ci) xd_b57af322 ?_
    have hG3_ : sv_w sg (cm_u1 (cm_u1 (cm_u1 w 145 1 (w.1 33 1)) 145 2 ((cm_u1 w 145 1 (w.1 33 1)).1 33 2)) 145 3 ((cm_u1 (cm_u1 w 145 1 (w.1 33 1)) 145 2 ((cm_u1 w 145 1 (w.1 33 1)).1 33 2)).1 33 3)) := sv_w_u1 hG2_ (by rw [xg_a81c0f14]; exact sv_in_top _)
    refine wk_aload_n xd_ead53fbd rfl ?_
    refine wk_getR xf_6558dbb5 xd_b45cc7e4 ?_
    refine wk_iconst xd_a51768c8 ?_
    refine wk_aload_n xd_4c231e6c rfl ?_
    refine wk_getR xf_5eb37c2d xd_f9f4ac92 ?_
    refine wk_iconst xd_be5f095c ?_
    refine wk_bipush xd_b4989d86 ?_
    refine aw_acp (n := 16) xl_cbb5c3e5 xf_164c5220 (by decide) (by decide) (by decide) rfl xd_4e091714 ?_
    refine wk_aload_n xd_f06652fb rfl ?_
    refine wk_getR xf_73b645bc xd_33b325d7 ?_
    refine wk_iconst xd_c8e691f2 ?_
    refine wk_aload_n xd_6788445d rfl ?_
    refine wk_getR xf_c41b5b1d xd_6d85ff22 ?_
    refine wk_iconst xd_48dd1ab2 ?_
    refine wk_bipush xd_30ebd4e8 ?_
    refine aw_acp (n := 16) xl_cbb5c3e5 xf_65b21a34 (by decide) (by decide) (by decide) rfl xd_352d5499 ?_
    refine wk_aload_n xd_dbcd08ca rfl ?_
    refine wk_getR xf_6f2ca336 xd_72089d04 ?_
    refine wk_iconst xd_d3aef066 ?_
    refine wk_aload_n xd_7d3b291b rfl ?_
    refine wk_getR xf_33c3948c xd_de69aa09 ?_
    refine wk_iconst xd_2570421b ?_
    refine wk_bipush xd_2fb7d6c1 ?_
    refine aw_acp (n := 16) xl_cbb5c3e5 xf_569211c0 (by decide) (by decide) (by decide) rfl xd_83ea783c ?_
    refine wk_aload_n xd_1845a983 rfl ?_
    refine wk_getR xf_ed92ca0d xd_b2f01c41 ?_
    refine wk_iconst xd_be03a8cf ?_
    refine wk_aload_n xd_3f96ed75 rfl ?_
    refine wk_getR xf_67c21422 xd_ecc6c6b4 ?_
    refine wk_iconst xd_3e38238f ?_
    refine wk_iconst xd_dc90e18f ?_
    refine aw_acp (n := 16) xl_cbb5c3e5 xf_7d00e015 (by decide) (by decide) (by decide) rfl xd_a3bffc94 ?_
    refine wk_aload_n xd_975a57a2 rfl ?_
    refine wk_getR xf_47e9db2d xd_0c478f50 ?_
    refine wk_iconst xd_94a2e047 ?_
    refine wk_aload_n xd_dc660409 rfl ?_
    refine wk_getR xf_6304a0ac xd_7e7ac612 ?_
    refine wk_iconst xd_4458fd53 ?_
    refine wk_bipush xd_3c6e3309 ?_
    refine aw_acp (n := 16) xl_cbb5c3e5 xf_58c1497c (by decide) (by decide) (by decide) rfl xd_abb6a469 ?_
    refine wk_aload_n xd_6023489e rfl ?_
    refine wk_getR xf_24a164ab xd_dec71a55 ?_
    refine wk_iconst xd_a262ae13 ?_
    refine wk_aload_n xd_5d2560f6 rfl ?_
    refine wk_getR xf_09de66e0 xd_8bfa0914 ?_
    refine wk_iconst xd_e9eb59d3 ?_
    refine wk_bipush xd_ad61e9a9 ?_
    refine aw_acp (n := 16) xl_cbb5c3e5 xf_7e1be08e (by decide) (by decide) (by decide) rfl xd_752b4d77 ?_
    refine wk_return xd_2112c339 xr_8cd0fd39 ⟨_, rfl, (aw_cpG xf_9ee6eace (aw_cpG xf_55ba396b (aw_cpG xf_d4c26317 (aw_cpG xf_1f9eb0b2 (aw_cpG xf_eec80267 (aw_cpG xf_2594d1c2 hG3_)))))), fun k i hk => ?_, fun f hf => ?_⟩
    · rw [aw_cp_o (by omega), aw_cp_o (by omega), aw_cp_o (by omega), aw_cp_o (by omega), aw_cp_o (by omega), aw_cp_o (by omega), hs_u1_ne (by omega), hs_u1_ne (by omega), hs_u1_ne (by omega)]
    · rw [aw_cp_o (by decide), aw_cp_o (by decide), aw_cp_i (by omega), aw_cp_o (by decide), aw_cp_o (by decide), aw_cp_o (by decide), hs_u1_ne (by omega), hs_u1_ne (by omega), hs_u1_ne (by omega)]
  obtain ⟨o, hC, w', rfl, a⟩ := h
  exact ⟨w', hC, a⟩
theorem jcp_172_33 {w : cm_W} (hG : sv_w sg w) : ∃ w' : cm_W, cm_C 1 72 [.inr (.inr (some 172)), .inr (.inr (some 33))] w (none, w') ∧ sv_w sg w' ∧ (∀ k i, ¬ (172 ≤ k ∧ k ≤ 178) → w'.1 k i = w.1 k i) ∧ (∀ f, f < 4 → w'.1 176 f = w.1 37 f) := by
  have h : ∃ o, cm_C (0 + 1) 72 [.inr (.inr (some 172)), .inr (.inr (some 33))] w o ∧ (fun o : cm_O => ∃ w', o = (none, w') ∧ sv_w sg w' ∧ (∀ k i, ¬ (172 ≤ k ∧ k ≤ 178) → w'.1 k i = w.1 k i) ∧ (∀ f, f < 4 → w'.1 176 f = w.1 37 f)) o := by
    refine wk_entry (by rw [xm_226784a6]; exact Nat.le_of_ble_eq_true rfl) ?_
    rw [show cm_ent 72 [.inr (.inr (some 172)), .inr (.inr (some 33))] = [some (.inr (.inr (some 172))), some (.inr (.inr (some 33)))] from by unfold cm_ent; rw [xm_226784a6]; rfl]
    refine wk_aload_n xd_f207e404 rfl ?_
    refine wk_aload_n xd_54142760 rfl ?_
    refine wk_getI xf_3d7a127e xd_956f11b0 ?_
    refine wk_putI xf_873ec306 (fun ci => wk_fitI ci) xd_e2ee4121 ?_
    have hG1_ : sv_w sg (cm_u1 w 172 1 (w.1 33 1)) := sv_w_u1 hG (by rw [xg_65bb5a68]; exact sv_in_top _)
    refine wk_aload_n xd_f2bea722 rfl ?_
    refine wk_aload_n xd_54ad6446 rfl ?_
    refine wk_getI xf_93b80099 xd_4b627024 ?_
    refine wk_putI xf_cb2babcd (fun ci => wk_fitI ci) xd_c75e6a4e ?_
    have hG2_ : sv_w sg (cm_u1 (cm_u1 w 172 1 (w.1 33 1)) 172 2 ((cm_u1 w 172 1 (w.1 33 1)).1 33 2)) := sv_w_u1 hG1_ (by rw [xg_8e8ce16b]; exact sv_in_top _)
    refine wk_aload_n xd_623d6ccc rfl ?_
    refine wk_aload_n xd_c42eafa8 rfl ?_
    refine wk_getI xf_f7f184bd xd_777cb15a ?_
    refine wk_putI xf_d900b266 (fun ci => wk_fitI ci) xd_b57af322 ?_
    have hG3_ : sv_w sg (cm_u1 (cm_u1 (cm_u1 w 172 1 (w.1 33 1)) 172 2 ((cm_u1 w 172 1 (w.1 33 1)).1 33 2)) 172 3 ((cm_u1 (cm_u1 w 172 1 (w.1 33 1)) 172 2 ((cm_u1 w 172 1 (w.1 33 1)).1 33 2)).1 33 3)) := sv_w_u1 hG2_ (by rw [xg_614e8a55]; exact sv_in_top _)
    refine wk_aload_n xd_ead53fbd rfl ?_
    refine wk_getR xf_6558dbb5 xd_b45cc7e4 ?_
    refine wk_iconst xd_a51768c8 ?_
    refine wk_aload_n xd_4c231e6c rfl ?_
    refine wk_getR xf_a5a7ce95 xd_f9f4ac92 ?_
    refine wk_iconst xd_be5f095c ?_
    refine wk_bipush xd_b4989d86 ?_
    refine aw_acp (n := 16) xl_cbb5c3e5 xf_3f8fd4b2 (by decide) (by decide) (by decide) rfl xd_4e091714 ?_
    refine wk_aload_n xd_f06652fb rfl ?_
    refine wk_getR xf_73b645bc xd_33b325d7 ?_
    refine wk_iconst xd_c8e691f2 ?_
    refine wk_aload_n xd_6788445d rfl ?_
    refine wk_getR xf_9fea3678 xd_6d85ff22 ?_
    refine wk_iconst xd_48dd1ab2 ?_
    refine wk_bipush xd_30ebd4e8 ?_
    refine aw_acp (n := 16) xl_cbb5c3e5 xf_1fe0f542 (by decide) (by decide) (by decide) rfl xd_352d5499 ?_
    refine wk_aload_n xd_dbcd08ca rfl ?_
    refine wk_getR xf_6f2ca336 xd_72089d04 ?_
    refine wk_iconst xd_d3aef066 ?_
    refine wk_aload_n xd_7d3b291b rfl ?_
    refine wk_getR xf_92d4f559 xd_de69aa09 ?_
    refine wk_iconst xd_2570421b ?_
    refine wk_bipush xd_2fb7d6c1 ?_
    refine aw_acp (n := 16) xl_cbb5c3e5 xf_0c42081d (by decide) (by decide) (by decide) rfl xd_83ea783c ?_
    refine wk_aload_n xd_1845a983 rfl ?_
    refine wk_getR xf_ed92ca0d xd_b2f01c41 ?_
    refine wk_iconst xd_be03a8cf ?_
    refine wk_aload_n xd_3f96ed75 rfl ?_
    refine wk_getR xf_a689c0bc xd_ecc6c6b4 ?_
    refine wk_iconst xd_3e38238f ?_
    refine wk_iconst xd_dc90e18f ?_
    refine aw_acp (n := 16) xl_cbb5c3e5 xf_a070dcab (by decide) (by decide) (by decide) rfl xd_a3bffc94 ?_
    refine wk_aload_n xd_975a57a2 rfl ?_
    refine wk_getR xf_47e9db2d xd_0c478f50 ?_
    refine wk_iconst xd_94a2e047 ?_
    refine wk_aload_n xd_dc660409 rfl ?_
    refine wk_getR xf_65434629 xd_7e7ac612 ?_
    refine wk_iconst xd_4458fd53 ?_
    refine wk_bipush xd_3c6e3309 ?_
    refine aw_acp (n := 16) xl_cbb5c3e5 xf_710421ce (by decide) (by decide) (by decide) rfl xd_abb6a469 ?_
    refine wk_aload_n xd_6023489e rfl ?_
    refine wk_getR xf_24a164ab xd_dec71a55 ?_
    refine wk_iconst xd_a262ae13 ?_
    refine wk_aload_n xd_5d2560f6 rfl ?_
    refine wk_getR xf_f57f8cd5 xd_8bfa0914 ?_
    refine wk_iconst xd_e9eb59d3 ?_
    refine wk_bipush xd_ad61e9a9 ?_
    refine aw_acp (n := 16) xl_cbb5c3e5 xf_1a790fd0 (by decide) (by decide) (by decide) rfl xd_752b4d77 ?_
    refine wk_return xd_2112c339 xr_8cd0fd39 ⟨_, rfl, (aw_cpG xf_2e76aa2f (aw_cpG xf_df2018fa (aw_cpG xf_147ccb5f (aw_cpG xf_92e8b9f1 (aw_cpG xf_59b46a54 (aw_cpG xf_44b15aec hG3_)))))), fun k i hk => ?_, fun f hf => ?_⟩
    · rw [aw_cp_o (by omega), aw_cp_o (by omega), aw_cp_o (by omega), aw_cp_o (by omega), aw_cp_o (by omega), aw_cp_o (by omega), hs_u1_ne (by omega), hs_u1_ne (by omega), hs_u1_ne (by omega)]
    · rw [aw_cp_o (by decide), aw_cp_o (by decide), aw_cp_i (by omega), aw_cp_o (by decide), aw_cp_o (by decide), aw_cp_o (by decide), hs_u1_ne (by omega), hs_u1_ne (by omega), hs_u1_ne (by omega)]
  obtain ⟨o, hC, w', rfl, a⟩ := h
  exact ⟨w', hC, a⟩
theorem jcp_33_145 {w : cm_W} (hG : sv_w sg w) : ∃ w' : cm_W, cm_C 1 72 [.inr (.inr (some 33)), .inr (.inr (some 145))] w (none, w') ∧ sv_w sg w' ∧ (∀ k i, ¬ (33 ≤ k ∧ k ≤ 39) → w'.1 k i = w.1 k i) ∧ (∀ f, f < 4 → w'.1 37 f = w.1 149 f) := by
  have h : ∃ o, cm_C (0 + 1) 72 [.inr (.inr (some 33)), .inr (.inr (some 145))] w o ∧ (fun o : cm_O => ∃ w', o = (none, w') ∧ sv_w sg w' ∧ (∀ k i, ¬ (33 ≤ k ∧ k ≤ 39) → w'.1 k i = w.1 k i) ∧ (∀ f, f < 4 → w'.1 37 f = w.1 149 f)) o := by
    refine wk_entry (by rw [xm_226784a6]; exact Nat.le_of_ble_eq_true rfl) ?_
    rw [show cm_ent 72 [.inr (.inr (some 33)), .inr (.inr (some 145))] = [some (.inr (.inr (some 33))), some (.inr (.inr (some 145)))] from by unfold cm_ent; rw [xm_226784a6]; rfl]
    refine wk_aload_n xd_f207e404 rfl ?_
    refine wk_aload_n xd_54142760 rfl ?_
    refine wk_getI xf_39a758a5 xd_956f11b0 ?_
    refine wk_putI xf_f154667f (fun ci => wk_fitI ci) xd_e2ee4121 ?_
    have hG1_ : sv_w sg (cm_u1 w 33 1 (w.1 145 1)) := sv_w_u1 hG (by rw [xg_8caf32d3]; exact sv_in_top _)
    refine wk_aload_n xd_f2bea722 rfl ?_
    refine wk_aload_n xd_54ad6446 rfl ?_
    refine wk_getI xf_75b2306e xd_4b627024 ?_
    refine wk_putI xf_5f967498 (fun ci => wk_fitI ci) xd_c75e6a4e ?_
    have hG2_ : sv_w sg (cm_u1 (cm_u1 w 33 1 (w.1 145 1)) 33 2 ((cm_u1 w 33 1 (w.1 145 1)).1 145 2)) := sv_w_u1 hG1_ (by rw [xg_679889d0]; exact sv_in_top _)
    refine wk_aload_n xd_623d6ccc rfl ?_
    refine wk_aload_n xd_c42eafa8 rfl ?_
    refine wk_getI xf_679929c5 xd_777cb15a ?_
    refine wk_putI xf_3bdff0bc (fun ci => wk_fitI ci) xd_b57af322 ?_
    have hG3_ : sv_w sg (cm_u1 (cm_u1 (cm_u1 w 33 1 (w.1 145 1)) 33 2 ((cm_u1 w 33 1 (w.1 145 1)).1 145 2)) 33 3 ((cm_u1 (cm_u1 w 33 1 (w.1 145 1)) 33 2 ((cm_u1 w 33 1 (w.1 145 1)).1 145 2)).1 145 3)) := sv_w_u1 hG2_ (by rw [xg_885ae2ee]; exact sv_in_top _)
    refine wk_aload_n xd_ead53fbd rfl ?_
    refine wk_getR xf_5eb37c2d xd_b45cc7e4 ?_
    refine wk_iconst xd_a51768c8 ?_
    refine wk_aload_n xd_4c231e6c rfl ?_
    refine wk_getR xf_6558dbb5 xd_f9f4ac92 ?_
    refine wk_iconst xd_be5f095c ?_
    refine wk_bipush xd_b4989d86 ?_
    refine aw_acp (n := 16) xl_cbb5c3e5 xf_5e2635f5 (by decide) (by decide) (by decide) rfl xd_4e091714 ?_
    refine wk_aload_n xd_f06652fb rfl ?_
    refine wk_getR xf_c41b5b1d xd_33b325d7 ?_
    refine wk_iconst xd_c8e691f2 ?_
    refine wk_aload_n xd_6788445d rfl ?_
    refine wk_getR xf_73b645bc xd_6d85ff22 ?_
    refine wk_iconst xd_48dd1ab2 ?_
    refine wk_bipush xd_30ebd4e8 ?_
    refine aw_acp (n := 16) xl_cbb5c3e5 xf_04162733 (by decide) (by decide) (by decide) rfl xd_352d5499 ?_
    refine wk_aload_n xd_dbcd08ca rfl ?_
    refine wk_getR xf_33c3948c xd_72089d04 ?_
    refine wk_iconst xd_d3aef066 ?_
    refine wk_aload_n xd_7d3b291b rfl ?_
    refine wk_getR xf_6f2ca336 xd_de69aa09 ?_
    refine wk_iconst xd_2570421b ?_
    refine wk_bipush xd_2fb7d6c1 ?_
    refine aw_acp (n := 16) xl_cbb5c3e5 xf_70fca982 (by decide) (by decide) (by decide) rfl xd_83ea783c ?_
    refine wk_aload_n xd_1845a983 rfl ?_
    refine wk_getR xf_67c21422 xd_b2f01c41 ?_
    refine wk_iconst xd_be03a8cf ?_
    refine wk_aload_n xd_3f96ed75 rfl ?_
    refine wk_getR xf_ed92ca0d xd_ecc6c6b4 ?_
    refine wk_iconst xd_3e38238f ?_
    refine wk_iconst xd_dc90e18f ?_
    refine aw_acp (n := 16) xl_cbb5c3e5 xf_72a00285 (by decide) (by decide) (by decide) rfl xd_a3bffc94 ?_
    refine wk_aload_n xd_975a57a2 rfl ?_
    refine wk_getR xf_6304a0ac xd_0c478f50 ?_
    refine wk_iconst xd_94a2e047 ?_
    refine wk_aload_n xd_dc660409 rfl ?_
    refine wk_getR xf_47e9db2d xd_7e7ac612 ?_
    refine wk_iconst xd_4458fd53 ?_
    refine wk_bipush xd_3c6e3309 ?_
    refine aw_acp (n := 16) xl_cbb5c3e5 xf_f6d4630f (by decide) (by decide) (by decide) rfl xd_abb6a469 ?_
    refine wk_aload_n xd_6023489e rfl ?_
    refine wk_getR xf_09de66e0 xd_dec71a55 ?_
    refine wk_iconst xd_a262ae13 ?_
    refine wk_aload_n xd_5d2560f6 rfl ?_
    refine wk_getR xf_24a164ab xd_8bfa0914 ?_
    refine wk_iconst xd_e9eb59d3 ?_
    refine wk_bipush xd_ad61e9a9 ?_
    refine aw_acp (n := 16) xl_cbb5c3e5 xf_df4da880 (by decide) (by decide) (by decide) rfl xd_752b4d77 ?_
    refine wk_return xd_2112c339 xr_8cd0fd39 ⟨_, rfl, (aw_cpG xf_a3edc875 (aw_cpG xf_68b11bd0 (aw_cpG xf_99e7a905 (aw_cpG xf_52bb7aa0 (aw_cpG xf_d42f080e (aw_cpG xf_1f73dbab hG3_)))))), fun k i hk => ?_, fun f hf => ?_⟩
    · rw [aw_cp_o (by omega), aw_cp_o (by omega), aw_cp_o (by omega), aw_cp_o (by omega), aw_cp_o (by omega), aw_cp_o (by omega), hs_u1_ne (by omega), hs_u1_ne (by omega), hs_u1_ne (by omega)]
    · rw [aw_cp_o (by decide), aw_cp_o (by decide), aw_cp_i (by omega), aw_cp_o (by decide), aw_cp_o (by decide), aw_cp_o (by decide), hs_u1_ne (by omega), hs_u1_ne (by omega), hs_u1_ne (by omega)]
  obtain ⟨o, hC, w', rfl, a⟩ := h
  exact ⟨w', hC, a⟩
theorem jcp_33_172 {w : cm_W} (hG : sv_w sg w) : ∃ w' : cm_W, cm_C 1 72 [.inr (.inr (some 33)), .inr (.inr (some 172))] w (none, w') ∧ sv_w sg w' ∧ (∀ k i, ¬ (33 ≤ k ∧ k ≤ 39) → w'.1 k i = w.1 k i) ∧ (∀ f, f < 4 → w'.1 37 f = w.1 176 f) := by
  have h : ∃ o, cm_C (0 + 1) 72 [.inr (.inr (some 33)), .inr (.inr (some 172))] w o ∧ (fun o : cm_O => ∃ w', o = (none, w') ∧ sv_w sg w' ∧ (∀ k i, ¬ (33 ≤ k ∧ k ≤ 39) → w'.1 k i = w.1 k i) ∧ (∀ f, f < 4 → w'.1 37 f = w.1 176 f)) o := by
    refine wk_entry (by rw [xm_226784a6]; exact Nat.le_of_ble_eq_true rfl) ?_
    rw [show cm_ent 72 [.inr (.inr (some 33)), .inr (.inr (some 172))] = [some (.inr (.inr (some 33))), some (.inr (.inr (some 172)))] from by unfold cm_ent; rw [xm_226784a6]; rfl]
    refine wk_aload_n xd_f207e404 rfl ?_
    refine wk_aload_n xd_54142760 rfl ?_
    refine wk_getI xf_f0f5dde4 xd_956f11b0 ?_
    refine wk_putI xf_f154667f (fun ci => wk_fitI ci) xd_e2ee4121 ?_
    have hG1_ : sv_w sg (cm_u1 w 33 1 (w.1 172 1)) := sv_w_u1 hG (by rw [xg_8caf32d3]; exact sv_in_top _)
    refine wk_aload_n xd_f2bea722 rfl ?_
    refine wk_aload_n xd_54ad6446 rfl ?_
    refine wk_getI xf_bce0b52f xd_4b627024 ?_
    refine wk_putI xf_5f967498 (fun ci => wk_fitI ci) xd_c75e6a4e ?_
    have hG2_ : sv_w sg (cm_u1 (cm_u1 w 33 1 (w.1 172 1)) 33 2 ((cm_u1 w 33 1 (w.1 172 1)).1 172 2)) := sv_w_u1 hG1_ (by rw [xg_679889d0]; exact sv_in_top _)
    refine wk_aload_n xd_623d6ccc rfl ?_
    refine wk_aload_n xd_c42eafa8 rfl ?_
    refine wk_getI xf_aecbac84 xd_777cb15a ?_
    refine wk_putI xf_3bdff0bc (fun ci => wk_fitI ci) xd_b57af322 ?_
    have hG3_ : sv_w sg (cm_u1 (cm_u1 (cm_u1 w 33 1 (w.1 172 1)) 33 2 ((cm_u1 w 33 1 (w.1 172 1)).1 172 2)) 33 3 ((cm_u1 (cm_u1 w 33 1 (w.1 172 1)) 33 2 ((cm_u1 w 33 1 (w.1 172 1)).1 172 2)).1 172 3)) := sv_w_u1 hG2_ (by rw [xg_885ae2ee]; exact sv_in_top _)
    refine wk_aload_n xd_ead53fbd rfl ?_
    refine wk_getR xf_a5a7ce95 xd_b45cc7e4 ?_
    refine wk_iconst xd_a51768c8 ?_
    refine wk_aload_n xd_4c231e6c rfl ?_
    refine wk_getR xf_6558dbb5 xd_f9f4ac92 ?_
    refine wk_iconst xd_be5f095c ?_
    refine wk_bipush xd_b4989d86 ?_
    refine aw_acp (n := 16) xl_cbb5c3e5 xf_3f68a33d (by decide) (by decide) (by decide) rfl xd_4e091714 ?_
    refine wk_aload_n xd_f06652fb rfl ?_
    refine wk_getR xf_9fea3678 xd_33b325d7 ?_
    refine wk_iconst xd_c8e691f2 ?_
    refine wk_aload_n xd_6788445d rfl ?_
    refine wk_getR xf_73b645bc xd_6d85ff22 ?_
    refine wk_iconst xd_48dd1ab2 ?_
    refine wk_bipush xd_30ebd4e8 ?_
    refine aw_acp (n := 16) xl_cbb5c3e5 xf_c5bd6e26 (by decide) (by decide) (by decide) rfl xd_352d5499 ?_
    refine wk_aload_n xd_dbcd08ca rfl ?_
    refine wk_getR xf_92d4f559 xd_72089d04 ?_
    refine wk_iconst xd_d3aef066 ?_
    refine wk_aload_n xd_7d3b291b rfl ?_
    refine wk_getR xf_6f2ca336 xd_de69aa09 ?_
    refine wk_iconst xd_2570421b ?_
    refine wk_bipush xd_2fb7d6c1 ?_
    refine aw_acp (n := 16) xl_cbb5c3e5 xf_4bb1ec27 (by decide) (by decide) (by decide) rfl xd_83ea783c ?_
    refine wk_aload_n xd_1845a983 rfl ?_
    refine wk_getR xf_a689c0bc xd_b2f01c41 ?_
    refine wk_iconst xd_be03a8cf ?_
    refine wk_aload_n xd_3f96ed75 rfl ?_
    refine wk_getR xf_ed92ca0d xd_ecc6c6b4 ?_
    refine wk_iconst xd_3e38238f ?_
    refine wk_iconst xd_dc90e18f ?_
    refine aw_acp (n := 16) xl_cbb5c3e5 xf_29b1f26b (by decide) (by decide) (by decide) rfl xd_a3bffc94 ?_
    refine wk_aload_n xd_975a57a2 rfl ?_
    refine wk_getR xf_65434629 xd_0c478f50 ?_
    refine wk_iconst xd_94a2e047 ?_
    refine wk_aload_n xd_dc660409 rfl ?_
    refine wk_getR xf_47e9db2d xd_7e7ac612 ?_
    refine wk_iconst xd_4458fd53 ?_
    refine wk_bipush xd_3c6e3309 ?_
    refine aw_acp (n := 16) xl_cbb5c3e5 xf_6ac9a1fa (by decide) (by decide) (by decide) rfl xd_abb6a469 ?_
    refine wk_aload_n xd_6023489e rfl ?_
    refine wk_getR xf_f57f8cd5 xd_dec71a55 ?_
    refine wk_iconst xd_a262ae13 ?_
    refine wk_aload_n xd_5d2560f6 rfl ?_
    refine wk_getR xf_24a164ab xd_8bfa0914 ?_
    refine wk_iconst xd_e9eb59d3 ?_
    refine wk_bipush xd_ad61e9a9 ?_
    refine aw_acp (n := 16) xl_cbb5c3e5 xf_d99de651 (by decide) (by decide) (by decide) rfl xd_752b4d77 ?_
    refine wk_return xd_2112c339 xr_8cd0fd39 ⟨_, rfl, (aw_cpG xf_a3edc875 (aw_cpG xf_68b11bd0 (aw_cpG xf_99e7a905 (aw_cpG xf_52bb7aa0 (aw_cpG xf_d42f080e (aw_cpG xf_1f73dbab hG3_)))))), fun k i hk => ?_, fun f hf => ?_⟩
    · rw [aw_cp_o (by omega), aw_cp_o (by omega), aw_cp_o (by omega), aw_cp_o (by omega), aw_cp_o (by omega), aw_cp_o (by omega), hs_u1_ne (by omega), hs_u1_ne (by omega), hs_u1_ne (by omega)]
    · rw [aw_cp_o (by decide), aw_cp_o (by decide), aw_cp_i (by omega), aw_cp_o (by decide), aw_cp_o (by decide), aw_cp_o (by decide), hs_u1_ne (by omega), hs_u1_ne (by omega), hs_u1_ne (by omega)]
  obtain ⟨o, hC, w', rfl, a⟩ := h
  exact ⟨w', hC, a⟩
theorem jke_ring {w w' : cm_W} {m s : Nat} (hm : m < 8) (hs : s ≤ 8) (e1 : (w.1 47 1).toInt = (m : Int)) (e2 : (w.1 47 2).toInt = (s : Int)) (e3 : (w'.1 47 1).toInt = (((m + 1) % 8 : Nat) : Int)) (e4 : ((w'.1 47 2).toInt = 8 ∧ 8 ≤ s + 1) ∨ ((w'.1 47 2).toInt = (s : Int) + 1 ∧ s + 1 < 8)) (hF : ∀ k i, k ≠ 47 → ¬ (49 + 7 * m ≤ k ∧ k ≤ 55 + 7 * m) → w'.1 k i = w.1 k i) (hL : ∀ f, f < 4 → w'.1 (53 + 7 * m) f = w.1 37 f) (h : jCl w) : jCl w' := by
  obtain ⟨h1, h2, h3, h4⟩ := h
  refine ⟨jL_eq (hF 4 4 (by omega) (by omega)) (fun f _ => hF 37 f (by omega) (by omega)) h1, fun j hj => ?_, jL_eq (hF 131 4 (by omega) (by omega)) (fun f _ => hF 149 f (by omega) (by omega)) h3, jL_eq (hF 158 4 (by omega) (by omega)) (fun f _ => hF 176 f (by omega) (by omega)) h4⟩
  rw [show (w'.1 47 1).toInt.toNat = (m + 1) % 8 from by omega]
  by_cases ej : j = 0
  · rw [show ((m + 1) % 8 + 7 - j) % 8 = m from by omega]
    exact jL_eq (hF 4 4 (by omega) (by omega)) hL h1
  · have h5 := h2 (j - 1) (by omega)
    rw [show ((w.1 47 1).toInt.toNat + 7 - (j - 1)) % 8 = ((m + 1) % 8 + 7 - j) % 8 from by omega] at h5
    exact jL_eq (hF 4 4 (by omega) (by omega)) (fun f _ => hF _ f (by omega) (by omega)) h5
theorem jke_ok {w : cm_W} (hc : jCl w) (hG : sv_w sg w) : ∃ w' : cm_W, cm_C 2 55 [.inr (.inr (some 47)), .inr (.inr (some 33))] w (none, w') ∧ sv_w sg w' ∧ (∀ k i, k ≠ 47 → ¬ (49 ≤ k ∧ k ≤ 104) → w'.1 k i = w.1 k i) ∧ jCl w' := by
  have b1 := hG 47 1
  rw [xg_07bca462] at b1
  have b1 := hb_in b1
  have b2 := hG 47 2
  rw [xg_2e4ff086] at b2
  have b2 := hb_in b2
  have h : ∃ o, cm_C (1 + 1) 55 [.inr (.inr (some 47)), .inr (.inr (some 33))] w o ∧ (fun o : cm_O => ∃ w', o = (none, w') ∧ sv_w sg w' ∧ (∀ k i, k ≠ 47 → ¬ (49 ≤ k ∧ k ≤ 104) → w'.1 k i = w.1 k i) ∧ jCl w') o := by
    refine wk_entry (by rw [xm_dd8ff9bd]; exact Nat.le_of_ble_eq_true rfl) ?_
    rw [show cm_ent 55 [.inr (.inr (some 47)), .inr (.inr (some 33))] = [some (.inr (.inr (some 47))), some (.inr (.inr (some 33)))] from by unfold cm_ent; rw [xm_dd8ff9bd]; rfl]
    have hm : (w.1 47 1).toInt = 0 ∨ (w.1 47 1).toInt = 1 ∨ (w.1 47 1).toInt = 2 ∨ (w.1 47 1).toInt = 3 ∨ (w.1 47 1).toInt = 4 ∨ (w.1 47 1).toInt = 5 ∨ (w.1 47 1).toInt = 6 ∨ (w.1 47 1).toInt = 7 := by omega
    rcases hm with hm | hm | hm | hm | hm | hm | hm | hm
    · skip
      refine wk_aload_n xd_f7dca9a0 rfl ?_
      refine wk_getR xf_2a6eec38 xd_e7acc883 ?_
      refine wk_aload_n xd_f7800833 rfl ?_
      refine wk_getI xf_5a0766af xd_dd258a06 ?_
      refine aw_aaload (i := 0) xf_5beb2906 (show ((w.1 47 1)).toInt = (0 : Int) from hm) rfl xd_d2cccd0e rfl ?_
      refine wk_aload_n xd_517629e2 rfl ?_
      obtain ⟨w2, hC2, hG2, hF2, hL2⟩ := jcp_49_33 (w := w) hG
      refine wk_call (kd := 0) (i := 25) xd_fe2acab3 rfl (wk_cal (as := [.inr (.inr (some 49)), .inr (.inr (some 33))]) (t := []) xl_2cc9ab70 rfl xn_437ab768 xc_33cf4b98 rfl rfl xv_5fd24db5 rfl) hC2 ?_
      have hm2 : (w2.1 47 1).toInt = 0 := by rw [hF2 47 1 (by omega)]; exact hm
      refine wk_aload_n xd_28ac9b37 rfl ?_
      refine wk_aload_n xd_5e150399 rfl ?_
      refine wk_getI xf_5a0766af xd_1e1fae78 ?_
      refine wk_iconst xd_eb4935e1 ?_
      refine aw_iadd (a := (0 : Int)) (b := (1 : Int)) (e := (1 : Int)) xd_2d2201d1 (show ((w2.1 47 1)).toInt = (0 : Int) from hm2) (show ((Int32.ofInt 1)).toInt = 1 from by decide) (by omega) (by omega) (by omega) (fun v1_ p1_ => ?_)
      refine wk_bipush xd_c9a11797 ?_
      refine aw_irem (a := (1 : Int)) (b := (8 : Int)) xd_e3d9c391 p1_ (show (((Int8.ofInt 8).toInt32)).toInt = 8 from by decide) (by omega) (by omega) (fun v2_ p2_ => ?_)
      refine wk_putI xf_962912ae (fun ci => wk_fitI ci) xd_3e42831f ?_
      have hG3_ : sv_w sg (cm_u1 w2 47 1 v2_) := sv_w_u1 hG2 (by rw [xg_07bca462]; exact hb_mk (by rw [show (v2_).toInt = (v2_).toInt from rfl]; omega) (by rw [show (v2_).toInt = (v2_).toInt from rfl]; omega))
      refine wk_aload_n xd_eb9d7958 rfl ?_
      refine wk_bipush xd_ac7829d7 ?_
      have s2 : (w2.1 47 2).toInt = (w.1 47 2).toInt := by rw [hF2 47 2 (by omega)]
      refine wk_aload_n xd_9d9da2d0 rfl ?_
      refine wk_getI xf_fff71448 xd_994755ed ?_
      refine wk_iconst xd_86e46d48 ?_
      refine aw_iadd (a := ((w2.1 47 2).toInt : Int)) (b := (1 : Int)) (e := ((w2.1 47 2).toInt + 1 : Int)) xd_aa3dc8cb rfl (show ((Int32.ofInt 1)).toInt = 1 from by decide) (by omega) (by omega) (by omega) (fun v4_ p4_ => ?_)
      refine aw_min (a := (8 : Int)) (b := ((w2.1 47 2).toInt + 1 : Int)) xl_1bb8cf01 rfl xd_0fad57b4 (show (((Int8.ofInt 8).toInt32)).toInt = 8 from by decide) p4_ (fun v5_ p5_ => ?_)
      refine wk_putI xf_33d96049 (fun ci => wk_fitI ci) xd_0c9d6a63 ?_
      have hG6_ : sv_w sg (cm_u1 (cm_u1 w2 47 1 v2_) 47 2 v5_) := sv_w_u1 hG3_ (by rw [xg_2e4ff086]; exact hb_mk (by rw [show (v5_).toInt = (v5_).toInt from rfl]; omega) (by rw [show (v5_).toInt = (v5_).toInt from rfl]; omega))
      refine wk_return xd_a22181cc xr_a8e3dca6 ⟨_, rfl, hG6_, fun k i k1 k2 => ?_, ?_⟩
      · rw [hs_u1_ne (by omega), hs_u1_ne (by omega), hF2 k i (by omega)]
      · refine jke_ring (w := w) (m := 0) (s := (w.1 47 2).toInt.toNat) (by omega) (by omega) hm (by omega) ?_ ?_ (fun k i k1 k2 => ?_) (fun f hf => ?_) hc
        · rw [hs_u1_ne (by omega), hs_u1_self, p2_]
          decide
        · rw [hs_u1_self]
          omega
        · rw [hs_u1_ne (by omega), hs_u1_ne (by omega), hF2 k i (by omega)]
        · rw [hs_u1_ne (by omega), hs_u1_ne (by omega)]
          exact hL2 f hf
    · skip
      refine wk_aload_n xd_f7dca9a0 rfl ?_
      refine wk_getR xf_2a6eec38 xd_e7acc883 ?_
      refine wk_aload_n xd_f7800833 rfl ?_
      refine wk_getI xf_5a0766af xd_dd258a06 ?_
      refine aw_aaload (i := 1) xf_543ef029 (show ((w.1 47 1)).toInt = (1 : Int) from hm) rfl xd_d2cccd0e rfl ?_
      refine wk_aload_n xd_517629e2 rfl ?_
      obtain ⟨w2, hC2, hG2, hF2, hL2⟩ := jcp_56_33 (w := w) hG
      refine wk_call (kd := 0) (i := 25) xd_fe2acab3 rfl (wk_cal (as := [.inr (.inr (some 56)), .inr (.inr (some 33))]) (t := []) xl_2cc9ab70 rfl xn_437ab768 xc_33cf4b98 rfl rfl xv_578ff51c rfl) hC2 ?_
      have hm2 : (w2.1 47 1).toInt = 1 := by rw [hF2 47 1 (by omega)]; exact hm
      refine wk_aload_n xd_28ac9b37 rfl ?_
      refine wk_aload_n xd_5e150399 rfl ?_
      refine wk_getI xf_5a0766af xd_1e1fae78 ?_
      refine wk_iconst xd_eb4935e1 ?_
      refine aw_iadd (a := (1 : Int)) (b := (1 : Int)) (e := (2 : Int)) xd_2d2201d1 (show ((w2.1 47 1)).toInt = (1 : Int) from hm2) (show ((Int32.ofInt 1)).toInt = 1 from by decide) (by omega) (by omega) (by omega) (fun v1_ p1_ => ?_)
      refine wk_bipush xd_c9a11797 ?_
      refine aw_irem (a := (2 : Int)) (b := (8 : Int)) xd_e3d9c391 p1_ (show (((Int8.ofInt 8).toInt32)).toInt = 8 from by decide) (by omega) (by omega) (fun v2_ p2_ => ?_)
      refine wk_putI xf_962912ae (fun ci => wk_fitI ci) xd_3e42831f ?_
      have hG3_ : sv_w sg (cm_u1 w2 47 1 v2_) := sv_w_u1 hG2 (by rw [xg_07bca462]; exact hb_mk (by rw [show (v2_).toInt = (v2_).toInt from rfl]; omega) (by rw [show (v2_).toInt = (v2_).toInt from rfl]; omega))
      refine wk_aload_n xd_eb9d7958 rfl ?_
      refine wk_bipush xd_ac7829d7 ?_
      have s2 : (w2.1 47 2).toInt = (w.1 47 2).toInt := by rw [hF2 47 2 (by omega)]
      refine wk_aload_n xd_9d9da2d0 rfl ?_
      refine wk_getI xf_fff71448 xd_994755ed ?_
      refine wk_iconst xd_86e46d48 ?_
      refine aw_iadd (a := ((w2.1 47 2).toInt : Int)) (b := (1 : Int)) (e := ((w2.1 47 2).toInt + 1 : Int)) xd_aa3dc8cb rfl (show ((Int32.ofInt 1)).toInt = 1 from by decide) (by omega) (by omega) (by omega) (fun v4_ p4_ => ?_)
      refine aw_min (a := (8 : Int)) (b := ((w2.1 47 2).toInt + 1 : Int)) xl_1bb8cf01 rfl xd_0fad57b4 (show (((Int8.ofInt 8).toInt32)).toInt = 8 from by decide) p4_ (fun v5_ p5_ => ?_)
      refine wk_putI xf_33d96049 (fun ci => wk_fitI ci) xd_0c9d6a63 ?_
      have hG6_ : sv_w sg (cm_u1 (cm_u1 w2 47 1 v2_) 47 2 v5_) := sv_w_u1 hG3_ (by rw [xg_2e4ff086]; exact hb_mk (by rw [show (v5_).toInt = (v5_).toInt from rfl]; omega) (by rw [show (v5_).toInt = (v5_).toInt from rfl]; omega))
      refine wk_return xd_a22181cc xr_a8e3dca6 ⟨_, rfl, hG6_, fun k i k1 k2 => ?_, ?_⟩
      · rw [hs_u1_ne (by omega), hs_u1_ne (by omega), hF2 k i (by omega)]
      · refine jke_ring (w := w) (m := 1) (s := (w.1 47 2).toInt.toNat) (by omega) (by omega) hm (by omega) ?_ ?_ (fun k i k1 k2 => ?_) (fun f hf => ?_) hc
        · rw [hs_u1_ne (by omega), hs_u1_self, p2_]
          decide
        · rw [hs_u1_self]
          omega
        · rw [hs_u1_ne (by omega), hs_u1_ne (by omega), hF2 k i (by omega)]
        · rw [hs_u1_ne (by omega), hs_u1_ne (by omega)]
          exact hL2 f hf
    · skip
      refine wk_aload_n xd_f7dca9a0 rfl ?_
      refine wk_getR xf_2a6eec38 xd_e7acc883 ?_
      refine wk_aload_n xd_f7800833 rfl ?_
      refine wk_getI xf_5a0766af xd_dd258a06 ?_
      refine aw_aaload (i := 2) xf_bcb1a489 (show ((w.1 47 1)).toInt = (2 : Int) from hm) rfl xd_d2cccd0e rfl ?_
      refine wk_aload_n xd_517629e2 rfl ?_
      obtain ⟨w2, hC2, hG2, hF2, hL2⟩ := jcp_63_33 (w := w) hG
      refine wk_call (kd := 0) (i := 25) xd_fe2acab3 rfl (wk_cal (as := [.inr (.inr (some 63)), .inr (.inr (some 33))]) (t := []) xl_2cc9ab70 rfl xn_437ab768 xc_33cf4b98 rfl rfl xv_51468bae rfl) hC2 ?_
      have hm2 : (w2.1 47 1).toInt = 2 := by rw [hF2 47 1 (by omega)]; exact hm
      refine wk_aload_n xd_28ac9b37 rfl ?_
      refine wk_aload_n xd_5e150399 rfl ?_
      refine wk_getI xf_5a0766af xd_1e1fae78 ?_
      refine wk_iconst xd_eb4935e1 ?_
      refine aw_iadd (a := (2 : Int)) (b := (1 : Int)) (e := (3 : Int)) xd_2d2201d1 (show ((w2.1 47 1)).toInt = (2 : Int) from hm2) (show ((Int32.ofInt 1)).toInt = 1 from by decide) (by omega) (by omega) (by omega) (fun v1_ p1_ => ?_)
      refine wk_bipush xd_c9a11797 ?_
      refine aw_irem (a := (3 : Int)) (b := (8 : Int)) xd_e3d9c391 p1_ (show (((Int8.ofInt 8).toInt32)).toInt = 8 from by decide) (by omega) (by omega) (fun v2_ p2_ => ?_)
      refine wk_putI xf_962912ae (fun ci => wk_fitI ci) xd_3e42831f ?_
      have hG3_ : sv_w sg (cm_u1 w2 47 1 v2_) := sv_w_u1 hG2 (by rw [xg_07bca462]; exact hb_mk (by rw [show (v2_).toInt = (v2_).toInt from rfl]; omega) (by rw [show (v2_).toInt = (v2_).toInt from rfl]; omega))
      refine wk_aload_n xd_eb9d7958 rfl ?_
      refine wk_bipush xd_ac7829d7 ?_
      have s2 : (w2.1 47 2).toInt = (w.1 47 2).toInt := by rw [hF2 47 2 (by omega)]
      refine wk_aload_n xd_9d9da2d0 rfl ?_
      refine wk_getI xf_fff71448 xd_994755ed ?_
      refine wk_iconst xd_86e46d48 ?_
      refine aw_iadd (a := ((w2.1 47 2).toInt : Int)) (b := (1 : Int)) (e := ((w2.1 47 2).toInt + 1 : Int)) xd_aa3dc8cb rfl (show ((Int32.ofInt 1)).toInt = 1 from by decide) (by omega) (by omega) (by omega) (fun v4_ p4_ => ?_)
      refine aw_min (a := (8 : Int)) (b := ((w2.1 47 2).toInt + 1 : Int)) xl_1bb8cf01 rfl xd_0fad57b4 (show (((Int8.ofInt 8).toInt32)).toInt = 8 from by decide) p4_ (fun v5_ p5_ => ?_)
      refine wk_putI xf_33d96049 (fun ci => wk_fitI ci) xd_0c9d6a63 ?_
      have hG6_ : sv_w sg (cm_u1 (cm_u1 w2 47 1 v2_) 47 2 v5_) := sv_w_u1 hG3_ (by rw [xg_2e4ff086]; exact hb_mk (by rw [show (v5_).toInt = (v5_).toInt from rfl]; omega) (by rw [show (v5_).toInt = (v5_).toInt from rfl]; omega))
      refine wk_return xd_a22181cc xr_a8e3dca6 ⟨_, rfl, hG6_, fun k i k1 k2 => ?_, ?_⟩
      · rw [hs_u1_ne (by omega), hs_u1_ne (by omega), hF2 k i (by omega)]
      · refine jke_ring (w := w) (m := 2) (s := (w.1 47 2).toInt.toNat) (by omega) (by omega) hm (by omega) ?_ ?_ (fun k i k1 k2 => ?_) (fun f hf => ?_) hc
        · rw [hs_u1_ne (by omega), hs_u1_self, p2_]
          decide
        · rw [hs_u1_self]
          omega
        · rw [hs_u1_ne (by omega), hs_u1_ne (by omega), hF2 k i (by omega)]
        · rw [hs_u1_ne (by omega), hs_u1_ne (by omega)]
          exact hL2 f hf
    · skip
      refine wk_aload_n xd_f7dca9a0 rfl ?_
      refine wk_getR xf_2a6eec38 xd_e7acc883 ?_
      refine wk_aload_n xd_f7800833 rfl ?_
      refine wk_getI xf_5a0766af xd_dd258a06 ?_
      refine aw_aaload (i := 3) xf_e4cb68e9 (show ((w.1 47 1)).toInt = (3 : Int) from hm) rfl xd_d2cccd0e rfl ?_
      refine wk_aload_n xd_517629e2 rfl ?_
      obtain ⟨w2, hC2, hG2, hF2, hL2⟩ := jcp_70_33 (w := w) hG
      refine wk_call (kd := 0) (i := 25) xd_fe2acab3 rfl (wk_cal (as := [.inr (.inr (some 70)), .inr (.inr (some 33))]) (t := []) xl_2cc9ab70 rfl xn_437ab768 xc_33cf4b98 rfl rfl xv_5301a1c0 rfl) hC2 ?_
      have hm2 : (w2.1 47 1).toInt = 3 := by rw [hF2 47 1 (by omega)]; exact hm
      refine wk_aload_n xd_28ac9b37 rfl ?_
      refine wk_aload_n xd_5e150399 rfl ?_
      refine wk_getI xf_5a0766af xd_1e1fae78 ?_
      refine wk_iconst xd_eb4935e1 ?_
      refine aw_iadd (a := (3 : Int)) (b := (1 : Int)) (e := (4 : Int)) xd_2d2201d1 (show ((w2.1 47 1)).toInt = (3 : Int) from hm2) (show ((Int32.ofInt 1)).toInt = 1 from by decide) (by omega) (by omega) (by omega) (fun v1_ p1_ => ?_)
      refine wk_bipush xd_c9a11797 ?_
      refine aw_irem (a := (4 : Int)) (b := (8 : Int)) xd_e3d9c391 p1_ (show (((Int8.ofInt 8).toInt32)).toInt = 8 from by decide) (by omega) (by omega) (fun v2_ p2_ => ?_)
      refine wk_putI xf_962912ae (fun ci => wk_fitI ci) xd_3e42831f ?_
      have hG3_ : sv_w sg (cm_u1 w2 47 1 v2_) := sv_w_u1 hG2 (by rw [xg_07bca462]; exact hb_mk (by rw [show (v2_).toInt = (v2_).toInt from rfl]; omega) (by rw [show (v2_).toInt = (v2_).toInt from rfl]; omega))
      refine wk_aload_n xd_eb9d7958 rfl ?_
      refine wk_bipush xd_ac7829d7 ?_
      have s2 : (w2.1 47 2).toInt = (w.1 47 2).toInt := by rw [hF2 47 2 (by omega)]
      refine wk_aload_n xd_9d9da2d0 rfl ?_
      refine wk_getI xf_fff71448 xd_994755ed ?_
      refine wk_iconst xd_86e46d48 ?_
      refine aw_iadd (a := ((w2.1 47 2).toInt : Int)) (b := (1 : Int)) (e := ((w2.1 47 2).toInt + 1 : Int)) xd_aa3dc8cb rfl (show ((Int32.ofInt 1)).toInt = 1 from by decide) (by omega) (by omega) (by omega) (fun v4_ p4_ => ?_)
      refine aw_min (a := (8 : Int)) (b := ((w2.1 47 2).toInt + 1 : Int)) xl_1bb8cf01 rfl xd_0fad57b4 (show (((Int8.ofInt 8).toInt32)).toInt = 8 from by decide) p4_ (fun v5_ p5_ => ?_)
      refine wk_putI xf_33d96049 (fun ci => wk_fitI ci) xd_0c9d6a63 ?_
      have hG6_ : sv_w sg (cm_u1 (cm_u1 w2 47 1 v2_) 47 2 v5_) := sv_w_u1 hG3_ (by rw [xg_2e4ff086]; exact hb_mk (by rw [show (v5_).toInt = (v5_).toInt from rfl]; omega) (by rw [show (v5_).toInt = (v5_).toInt from rfl]; omega))
      refine wk_return xd_a22181cc xr_a8e3dca6 ⟨_, rfl, hG6_, fun k i k1 k2 => ?_, ?_⟩
      · rw [hs_u1_ne (by omega), hs_u1_ne (by omega), hF2 k i (by omega)]
      · refine jke_ring (w := w) (m := 3) (s := (w.1 47 2).toInt.toNat) (by omega) (by omega) hm (by omega) ?_ ?_ (fun k i k1 k2 => ?_) (fun f hf => ?_) hc
        · rw [hs_u1_ne (by omega), hs_u1_self, p2_]
          decide
        · rw [hs_u1_self]
          omega
        · rw [hs_u1_ne (by omega), hs_u1_ne (by omega), hF2 k i (by omega)]
        · rw [hs_u1_ne (by omega), hs_u1_ne (by omega)]
          exact hL2 f hf
    · skip
      refine wk_aload_n xd_f7dca9a0 rfl ?_
      refine wk_getR xf_2a6eec38 xd_e7acc883 ?_
      refine wk_aload_n xd_f7800833 rfl ?_
      refine wk_getI xf_5a0766af xd_dd258a06 ?_
      refine aw_aaload (i := 4) xf_c7357473 (show ((w.1 47 1)).toInt = (4 : Int) from hm) rfl xd_d2cccd0e rfl ?_
      refine wk_aload_n xd_517629e2 rfl ?_
      obtain ⟨w2, hC2, hG2, hF2, hL2⟩ := jcp_77_33 (w := w) hG
      refine wk_call (kd := 0) (i := 25) xd_fe2acab3 rfl (wk_cal (as := [.inr (.inr (some 77)), .inr (.inr (some 33))]) (t := []) xl_2cc9ab70 rfl xn_437ab768 xc_33cf4b98 rfl rfl xv_7a3ab443 rfl) hC2 ?_
      have hm2 : (w2.1 47 1).toInt = 4 := by rw [hF2 47 1 (by omega)]; exact hm
      refine wk_aload_n xd_28ac9b37 rfl ?_
      refine wk_aload_n xd_5e150399 rfl ?_
      refine wk_getI xf_5a0766af xd_1e1fae78 ?_
      refine wk_iconst xd_eb4935e1 ?_
      refine aw_iadd (a := (4 : Int)) (b := (1 : Int)) (e := (5 : Int)) xd_2d2201d1 (show ((w2.1 47 1)).toInt = (4 : Int) from hm2) (show ((Int32.ofInt 1)).toInt = 1 from by decide) (by omega) (by omega) (by omega) (fun v1_ p1_ => ?_)
      refine wk_bipush xd_c9a11797 ?_
      refine aw_irem (a := (5 : Int)) (b := (8 : Int)) xd_e3d9c391 p1_ (show (((Int8.ofInt 8).toInt32)).toInt = 8 from by decide) (by omega) (by omega) (fun v2_ p2_ => ?_)
      refine wk_putI xf_962912ae (fun ci => wk_fitI ci) xd_3e42831f ?_
      have hG3_ : sv_w sg (cm_u1 w2 47 1 v2_) := sv_w_u1 hG2 (by rw [xg_07bca462]; exact hb_mk (by rw [show (v2_).toInt = (v2_).toInt from rfl]; omega) (by rw [show (v2_).toInt = (v2_).toInt from rfl]; omega))
      refine wk_aload_n xd_eb9d7958 rfl ?_
      refine wk_bipush xd_ac7829d7 ?_
      have s2 : (w2.1 47 2).toInt = (w.1 47 2).toInt := by rw [hF2 47 2 (by omega)]
      refine wk_aload_n xd_9d9da2d0 rfl ?_
      refine wk_getI xf_fff71448 xd_994755ed ?_
      refine wk_iconst xd_86e46d48 ?_
      refine aw_iadd (a := ((w2.1 47 2).toInt : Int)) (b := (1 : Int)) (e := ((w2.1 47 2).toInt + 1 : Int)) xd_aa3dc8cb rfl (show ((Int32.ofInt 1)).toInt = 1 from by decide) (by omega) (by omega) (by omega) (fun v4_ p4_ => ?_)
      refine aw_min (a := (8 : Int)) (b := ((w2.1 47 2).toInt + 1 : Int)) xl_1bb8cf01 rfl xd_0fad57b4 (show (((Int8.ofInt 8).toInt32)).toInt = 8 from by decide) p4_ (fun v5_ p5_ => ?_)
      refine wk_putI xf_33d96049 (fun ci => wk_fitI ci) xd_0c9d6a63 ?_
      have hG6_ : sv_w sg (cm_u1 (cm_u1 w2 47 1 v2_) 47 2 v5_) := sv_w_u1 hG3_ (by rw [xg_2e4ff086]; exact hb_mk (by rw [show (v5_).toInt = (v5_).toInt from rfl]; omega) (by rw [show (v5_).toInt = (v5_).toInt from rfl]; omega))
      refine wk_return xd_a22181cc xr_a8e3dca6 ⟨_, rfl, hG6_, fun k i k1 k2 => ?_, ?_⟩
      · rw [hs_u1_ne (by omega), hs_u1_ne (by omega), hF2 k i (by omega)]
      · refine jke_ring (w := w) (m := 4) (s := (w.1 47 2).toInt.toNat) (by omega) (by omega) hm (by omega) ?_ ?_ (fun k i k1 k2 => ?_) (fun f hf => ?_) hc
        · rw [hs_u1_ne (by omega), hs_u1_self, p2_]
          decide
        · rw [hs_u1_self]
          omega
        · rw [hs_u1_ne (by omega), hs_u1_ne (by omega), hF2 k i (by omega)]
        · rw [hs_u1_ne (by omega), hs_u1_ne (by omega)]
          exact hL2 f hf
    · skip
      refine wk_aload_n xd_f7dca9a0 rfl ?_
      refine wk_getR xf_2a6eec38 xd_e7acc883 ?_
      refine wk_aload_n xd_f7800833 rfl ?_
      refine wk_getI xf_5a0766af xd_dd258a06 ?_
      refine aw_aaload (i := 5) xf_578d6381 (show ((w.1 47 1)).toInt = (5 : Int) from hm) rfl xd_d2cccd0e rfl ?_
      refine wk_aload_n xd_517629e2 rfl ?_
      obtain ⟨w2, hC2, hG2, hF2, hL2⟩ := jcp_84_33 (w := w) hG
      refine wk_call (kd := 0) (i := 25) xd_fe2acab3 rfl (wk_cal (as := [.inr (.inr (some 84)), .inr (.inr (some 33))]) (t := []) xl_2cc9ab70 rfl xn_437ab768 xc_33cf4b98 rfl rfl xv_914c4d33 rfl) hC2 ?_
      have hm2 : (w2.1 47 1).toInt = 5 := by rw [hF2 47 1 (by omega)]; exact hm
      refine wk_aload_n xd_28ac9b37 rfl ?_
      refine wk_aload_n xd_5e150399 rfl ?_
      refine wk_getI xf_5a0766af xd_1e1fae78 ?_
      refine wk_iconst xd_eb4935e1 ?_
      refine aw_iadd (a := (5 : Int)) (b := (1 : Int)) (e := (6 : Int)) xd_2d2201d1 (show ((w2.1 47 1)).toInt = (5 : Int) from hm2) (show ((Int32.ofInt 1)).toInt = 1 from by decide) (by omega) (by omega) (by omega) (fun v1_ p1_ => ?_)
      refine wk_bipush xd_c9a11797 ?_
      refine aw_irem (a := (6 : Int)) (b := (8 : Int)) xd_e3d9c391 p1_ (show (((Int8.ofInt 8).toInt32)).toInt = 8 from by decide) (by omega) (by omega) (fun v2_ p2_ => ?_)
      refine wk_putI xf_962912ae (fun ci => wk_fitI ci) xd_3e42831f ?_
      have hG3_ : sv_w sg (cm_u1 w2 47 1 v2_) := sv_w_u1 hG2 (by rw [xg_07bca462]; exact hb_mk (by rw [show (v2_).toInt = (v2_).toInt from rfl]; omega) (by rw [show (v2_).toInt = (v2_).toInt from rfl]; omega))
      refine wk_aload_n xd_eb9d7958 rfl ?_
      refine wk_bipush xd_ac7829d7 ?_
      have s2 : (w2.1 47 2).toInt = (w.1 47 2).toInt := by rw [hF2 47 2 (by omega)]
      refine wk_aload_n xd_9d9da2d0 rfl ?_
      refine wk_getI xf_fff71448 xd_994755ed ?_
      refine wk_iconst xd_86e46d48 ?_
      refine aw_iadd (a := ((w2.1 47 2).toInt : Int)) (b := (1 : Int)) (e := ((w2.1 47 2).toInt + 1 : Int)) xd_aa3dc8cb rfl (show ((Int32.ofInt 1)).toInt = 1 from by decide) (by omega) (by omega) (by omega) (fun v4_ p4_ => ?_)
      refine aw_min (a := (8 : Int)) (b := ((w2.1 47 2).toInt + 1 : Int)) xl_1bb8cf01 rfl xd_0fad57b4 (show (((Int8.ofInt 8).toInt32)).toInt = 8 from by decide) p4_ (fun v5_ p5_ => ?_)
      refine wk_putI xf_33d96049 (fun ci => wk_fitI ci) xd_0c9d6a63 ?_
      have hG6_ : sv_w sg (cm_u1 (cm_u1 w2 47 1 v2_) 47 2 v5_) := sv_w_u1 hG3_ (by rw [xg_2e4ff086]; exact hb_mk (by rw [show (v5_).toInt = (v5_).toInt from rfl]; omega) (by rw [show (v5_).toInt = (v5_).toInt from rfl]; omega))
      refine wk_return xd_a22181cc xr_a8e3dca6 ⟨_, rfl, hG6_, fun k i k1 k2 => ?_, ?_⟩
      · rw [hs_u1_ne (by omega), hs_u1_ne (by omega), hF2 k i (by omega)]
      · refine jke_ring (w := w) (m := 5) (s := (w.1 47 2).toInt.toNat) (by omega) (by omega) hm (by omega) ?_ ?_ (fun k i k1 k2 => ?_) (fun f hf => ?_) hc
        · rw [hs_u1_ne (by omega), hs_u1_self, p2_]
          decide
        · rw [hs_u1_self]
          omega
        · rw [hs_u1_ne (by omega), hs_u1_ne (by omega), hF2 k i (by omega)]
        · rw [hs_u1_ne (by omega), hs_u1_ne (by omega)]
          exact hL2 f hf
    · skip
      refine wk_aload_n xd_f7dca9a0 rfl ?_
      refine wk_getR xf_2a6eec38 xd_e7acc883 ?_
      refine wk_aload_n xd_f7800833 rfl ?_
      refine wk_getI xf_5a0766af xd_dd258a06 ?_
      refine aw_aaload (i := 6) xf_91f41fa7 (show ((w.1 47 1)).toInt = (6 : Int) from hm) rfl xd_d2cccd0e rfl ?_
      refine wk_aload_n xd_517629e2 rfl ?_
      obtain ⟨w2, hC2, hG2, hF2, hL2⟩ := jcp_91_33 (w := w) hG
      refine wk_call (kd := 0) (i := 25) xd_fe2acab3 rfl (wk_cal (as := [.inr (.inr (some 91)), .inr (.inr (some 33))]) (t := []) xl_2cc9ab70 rfl xn_437ab768 xc_33cf4b98 rfl rfl xv_7bbead1e rfl) hC2 ?_
      have hm2 : (w2.1 47 1).toInt = 6 := by rw [hF2 47 1 (by omega)]; exact hm
      refine wk_aload_n xd_28ac9b37 rfl ?_
      refine wk_aload_n xd_5e150399 rfl ?_
      refine wk_getI xf_5a0766af xd_1e1fae78 ?_
      refine wk_iconst xd_eb4935e1 ?_
      refine aw_iadd (a := (6 : Int)) (b := (1 : Int)) (e := (7 : Int)) xd_2d2201d1 (show ((w2.1 47 1)).toInt = (6 : Int) from hm2) (show ((Int32.ofInt 1)).toInt = 1 from by decide) (by omega) (by omega) (by omega) (fun v1_ p1_ => ?_)
      refine wk_bipush xd_c9a11797 ?_
      refine aw_irem (a := (7 : Int)) (b := (8 : Int)) xd_e3d9c391 p1_ (show (((Int8.ofInt 8).toInt32)).toInt = 8 from by decide) (by omega) (by omega) (fun v2_ p2_ => ?_)
      refine wk_putI xf_962912ae (fun ci => wk_fitI ci) xd_3e42831f ?_
      have hG3_ : sv_w sg (cm_u1 w2 47 1 v2_) := sv_w_u1 hG2 (by rw [xg_07bca462]; exact hb_mk (by rw [show (v2_).toInt = (v2_).toInt from rfl]; omega) (by rw [show (v2_).toInt = (v2_).toInt from rfl]; omega))
      refine wk_aload_n xd_eb9d7958 rfl ?_
      refine wk_bipush xd_ac7829d7 ?_
      have s2 : (w2.1 47 2).toInt = (w.1 47 2).toInt := by rw [hF2 47 2 (by omega)]
      refine wk_aload_n xd_9d9da2d0 rfl ?_
      refine wk_getI xf_fff71448 xd_994755ed ?_
      refine wk_iconst xd_86e46d48 ?_
      refine aw_iadd (a := ((w2.1 47 2).toInt : Int)) (b := (1 : Int)) (e := ((w2.1 47 2).toInt + 1 : Int)) xd_aa3dc8cb rfl (show ((Int32.ofInt 1)).toInt = 1 from by decide) (by omega) (by omega) (by omega) (fun v4_ p4_ => ?_)
      refine aw_min (a := (8 : Int)) (b := ((w2.1 47 2).toInt + 1 : Int)) xl_1bb8cf01 rfl xd_0fad57b4 (show (((Int8.ofInt 8).toInt32)).toInt = 8 from by decide) p4_ (fun v5_ p5_ => ?_)
      refine wk_putI xf_33d96049 (fun ci => wk_fitI ci) xd_0c9d6a63 ?_
      have hG6_ : sv_w sg (cm_u1 (cm_u1 w2 47 1 v2_) 47 2 v5_) := sv_w_u1 hG3_ (by rw [xg_2e4ff086]; exact hb_mk (by rw [show (v5_).toInt = (v5_).toInt from rfl]; omega) (by rw [show (v5_).toInt = (v5_).toInt from rfl]; omega))
      refine wk_return xd_a22181cc xr_a8e3dca6 ⟨_, rfl, hG6_, fun k i k1 k2 => ?_, ?_⟩
      · rw [hs_u1_ne (by omega), hs_u1_ne (by omega), hF2 k i (by omega)]
      · refine jke_ring (w := w) (m := 6) (s := (w.1 47 2).toInt.toNat) (by omega) (by omega) hm (by omega) ?_ ?_ (fun k i k1 k2 => ?_) (fun f hf => ?_) hc
        · rw [hs_u1_ne (by omega), hs_u1_self, p2_]
          decide
        · rw [hs_u1_self]
          omega
        · rw [hs_u1_ne (by omega), hs_u1_ne (by omega), hF2 k i (by omega)]
        · rw [hs_u1_ne (by omega), hs_u1_ne (by omega)]
          exact hL2 f hf
    · skip
      refine wk_aload_n xd_f7dca9a0 rfl ?_
      refine wk_getR xf_2a6eec38 xd_e7acc883 ?_
      refine wk_aload_n xd_f7800833 rfl ?_
      refine wk_getI xf_5a0766af xd_dd258a06 ?_
      refine aw_aaload (i := 7) xf_4f35db4c (show ((w.1 47 1)).toInt = (7 : Int) from hm) rfl xd_d2cccd0e rfl ?_
      refine wk_aload_n xd_517629e2 rfl ?_
      obtain ⟨w2, hC2, hG2, hF2, hL2⟩ := jcp_98_33 (w := w) hG
      refine wk_call (kd := 0) (i := 25) xd_fe2acab3 rfl (wk_cal (as := [.inr (.inr (some 98)), .inr (.inr (some 33))]) (t := []) xl_2cc9ab70 rfl xn_437ab768 xc_33cf4b98 rfl rfl xv_00f3939b rfl) hC2 ?_
      have hm2 : (w2.1 47 1).toInt = 7 := by rw [hF2 47 1 (by omega)]; exact hm
      refine wk_aload_n xd_28ac9b37 rfl ?_
      refine wk_aload_n xd_5e150399 rfl ?_
      refine wk_getI xf_5a0766af xd_1e1fae78 ?_
      refine wk_iconst xd_eb4935e1 ?_
      refine aw_iadd (a := (7 : Int)) (b := (1 : Int)) (e := (8 : Int)) xd_2d2201d1 (show ((w2.1 47 1)).toInt = (7 : Int) from hm2) (show ((Int32.ofInt 1)).toInt = 1 from by decide) (by omega) (by omega) (by omega) (fun v1_ p1_ => ?_)
      refine wk_bipush xd_c9a11797 ?_
      refine aw_irem (a := (8 : Int)) (b := (8 : Int)) xd_e3d9c391 p1_ (show (((Int8.ofInt 8).toInt32)).toInt = 8 from by decide) (by omega) (by omega) (fun v2_ p2_ => ?_)
      refine wk_putI xf_962912ae (fun ci => wk_fitI ci) xd_3e42831f ?_
      have hG3_ : sv_w sg (cm_u1 w2 47 1 v2_) := sv_w_u1 hG2 (by rw [xg_07bca462]; exact hb_mk (by rw [show (v2_).toInt = (v2_).toInt from rfl]; omega) (by rw [show (v2_).toInt = (v2_).toInt from rfl]; omega))
      refine wk_aload_n xd_eb9d7958 rfl ?_
      refine wk_bipush xd_ac7829d7 ?_
      have s2 : (w2.1 47 2).toInt = (w.1 47 2).toInt := by rw [hF2 47 2 (by omega)]
      refine wk_aload_n xd_9d9da2d0 rfl ?_
      refine wk_getI xf_fff71448 xd_994755ed ?_
      refine wk_iconst xd_86e46d48 ?_
      refine aw_iadd (a := ((w2.1 47 2).toInt : Int)) (b := (1 : Int)) (e := ((w2.1 47 2).toInt + 1 : Int)) xd_aa3dc8cb rfl (show ((Int32.ofInt 1)).toInt = 1 from by decide) (by omega) (by omega) (by omega) (fun v4_ p4_ => ?_)
      refine aw_min (a := (8 : Int)) (b := ((w2.1 47 2).toInt + 1 : Int)) xl_1bb8cf01 rfl xd_0fad57b4 (show (((Int8.ofInt 8).toInt32)).toInt = 8 from by decide) p4_ (fun v5_ p5_ => ?_)
      refine wk_putI xf_33d96049 (fun ci => wk_fitI ci) xd_0c9d6a63 ?_
      have hG6_ : sv_w sg (cm_u1 (cm_u1 w2 47 1 v2_) 47 2 v5_) := sv_w_u1 hG3_ (by rw [xg_2e4ff086]; exact hb_mk (by rw [show (v5_).toInt = (v5_).toInt from rfl]; omega) (by rw [show (v5_).toInt = (v5_).toInt from rfl]; omega))
      refine wk_return xd_a22181cc xr_a8e3dca6 ⟨_, rfl, hG6_, fun k i k1 k2 => ?_, ?_⟩
      · rw [hs_u1_ne (by omega), hs_u1_ne (by omega), hF2 k i (by omega)]
      · refine jke_ring (w := w) (m := 7) (s := (w.1 47 2).toInt.toNat) (by omega) (by omega) hm (by omega) ?_ ?_ (fun k i k1 k2 => ?_) (fun f hf => ?_) hc
        · rw [hs_u1_ne (by omega), hs_u1_self, p2_]
          decide
        · rw [hs_u1_self]
          omega
        · rw [hs_u1_ne (by omega), hs_u1_ne (by omega), hF2 k i (by omega)]
        · rw [hs_u1_ne (by omega), hs_u1_ne (by omega)]
          exact hL2 f hf
  obtain ⟨o, hC, w', rfl, a⟩ := h
  exact ⟨w', hC, a⟩
theorem jgb_ring {w w' : cm_W} {m s : Nat} (hm : m < 8) (hs : s < 8) (e1 : (w.1 47 1).toInt = (((m + 1) % 8 : Nat) : Int)) (e2 : (w.1 47 2).toInt = (s : Int) + 1) (e3 : (w'.1 47 1).toInt = (m : Int)) (e4 : (w'.1 47 2).toInt = (s : Int)) (hF : ∀ k i, k ≠ 47 → ¬ (33 ≤ k ∧ k ≤ 39) → w'.1 k i = w.1 k i) (hL : ∀ f, f < 4 → w'.1 37 f = w.1 (53 + 7 * m) f) (h : jCl w) : jCl w' := by
  obtain ⟨h1, h2, h3, h4⟩ := h
  refine ⟨?_, fun j hj => ?_, jL_eq (hF 131 4 (by omega) (by omega)) (fun f _ => hF 149 f (by omega) (by omega)) h3, jL_eq (hF 158 4 (by omega) (by omega)) (fun f _ => hF 176 f (by omega) (by omega)) h4⟩
  · have h5 := h2 0 (by omega)
    rw [show ((w.1 47 1).toInt.toNat + 7 - 0) % 8 = m from by omega] at h5
    exact jL_eq (hF 4 4 (by omega) (by omega)) hL h5
  · have h5 := h2 (j + 1) (by omega)
    rw [show ((w.1 47 1).toInt.toNat + 7 - (j + 1)) % 8 = ((w'.1 47 1).toInt.toNat + 7 - j) % 8 from by omega] at h5
    exact jL_eq (hF 4 4 (by omega) (by omega)) (fun f _ => hF _ f (by omega) (by omega)) h5
theorem jgb_ok {w : cm_W} (hc : jCl w) (hG : sv_w sg w) : ∃ x : Int32, ∃ w' : cm_W, cm_C 2 54 [.inr (.inr (some 47)), .inr (.inr (some 33))] w (some (.inl x), w') ∧ sv_w sg w' ∧ (∀ k i, k ≠ 47 → ¬ (33 ≤ k ∧ k ≤ 39) → w'.1 k i = w.1 k i) ∧ jCl w' ∧ 0 ≤ x.toInt ∧ x.toInt ≤ 1 := by
  have b1 := hG 47 1
  rw [xg_07bca462] at b1
  have b1 := hb_in b1
  have b2 := hG 47 2
  rw [xg_2e4ff086] at b2
  have b2 := hb_in b2
  have h : ∃ o, cm_C (1 + 1) 54 [.inr (.inr (some 47)), .inr (.inr (some 33))] w o ∧ (fun o : cm_O => ∃ x w', o = (some (.inl x), w') ∧ sv_w sg w' ∧ (∀ k i, k ≠ 47 → ¬ (33 ≤ k ∧ k ≤ 39) → w'.1 k i = w.1 k i) ∧ jCl w' ∧ 0 ≤ x.toInt ∧ x.toInt ≤ 1) o := by
    refine wk_entry (by rw [xm_e0efd00d]; exact Nat.le_of_ble_eq_true rfl) ?_
    rw [show cm_ent 54 [.inr (.inr (some 47)), .inr (.inr (some 33))] = [some (.inr (.inr (some 47))), some (.inr (.inr (some 33)))] from by unfold cm_ent; rw [xm_e0efd00d]; rfl]
    have hm : (w.1 47 1).toInt = 1 ∨ (w.1 47 1).toInt = 2 ∨ (w.1 47 1).toInt = 3 ∨ (w.1 47 1).toInt = 4 ∨ (w.1 47 1).toInt = 5 ∨ (w.1 47 1).toInt = 6 ∨ (w.1 47 1).toInt = 7 ∨ (w.1 47 1).toInt = 0 := by omega
    rcases hm with hm | hm | hm | hm | hm | hm | hm | hm
    · skip
      refine wk_aload_n xd_10c10f37 rfl ?_
      refine wk_getI xf_10a5a2a9 xd_eb0957ef ?_
      refine wk_if xd_e259a194 (t := 9) rfl (fun h4_0 => ?_) (fun h4_0 => ?_)
      · have h4_0 := aw_ne_t (a := ((w.1 47 2).toInt : Int)) (b := (0 : Int)) rfl hb_z h4_0
        refine wk_aload_n xd_8b0ba6c5 rfl ?_
        refine wk_aload_n xd_30c5b94b rfl ?_
        refine wk_getI xf_b555d04e xd_86a53da7 ?_
        refine wk_bipush xd_04f81b3d ?_
        refine aw_iadd (a := (1 : Int)) (b := (8 : Int)) (e := (9 : Int)) xd_cc75c179 (show ((w.1 47 1)).toInt = (1 : Int) from hm) (show (((Int8.ofInt 8).toInt32)).toInt = 8 from by decide) (by omega) (by omega) (by omega) (fun v2_ p2_ => ?_)
        refine wk_iconst xd_d0ce8b36 ?_
        refine aw_isub (a := (9 : Int)) (b := (1 : Int)) (e := (8 : Int)) xd_62d37a89 p2_ (show ((Int32.ofInt 1)).toInt = 1 from by decide) (by omega) (by omega) (by omega) (fun v3_ p3_ => ?_)
        refine wk_bipush xd_f632cafd ?_
        refine aw_irem (a := (8 : Int)) (b := (8 : Int)) xd_1e777a33 p3_ (show (((Int8.ofInt 8).toInt32)).toInt = 8 from by decide) (by omega) (by omega) (fun v4_ p4_ => ?_)
        have p4_ : v4_.toInt = 0 := p4_.trans (by decide)
        refine wk_putI xf_797ba44f (fun ci => wk_fitI ci) xd_f8ceca35 ?_
        have hG5_ : sv_w sg (cm_u1 w 47 1 v4_) := sv_w_u1 hG (by rw [xg_07bca462]; exact hb_mk (by rw [p4_]; omega) (by rw [p4_]; omega))
        refine wk_aload_n xd_ce947294 rfl ?_
        refine wk_aload_n xd_85116219 rfl ?_
        refine wk_getR xf_8fe57c36 xd_de1db487 ?_
        refine wk_aload_n xd_e9fe7544 rfl ?_
        refine wk_getI xf_b555d04e xd_93ef76c8 ?_
        refine aw_aaload (i := 0) xf_5beb2906 (show (((cm_u1 w 47 1 v4_).1 47 1)).toInt = (0 : Int) from p4_) rfl xd_88805a71 rfl ?_
        obtain ⟨w2, hC2, hG2, hF2, hL2⟩ := jcp_33_49 (w := (cm_u1 w 47 1 v4_)) hG5_
        refine wk_call (kd := 0) (i := 25) xd_0a84250f rfl (wk_cal (as := [.inr (.inr (some 33)), .inr (.inr (some 49))]) (t := []) xl_222e43a1 rfl xn_437ab768 xc_33cf4b98 rfl rfl xv_c9e5fcbe rfl) hC2 ?_
        have s2 : (w2.1 47 2).toInt = (w.1 47 2).toInt := by rw [hF2 47 2 (by omega), hs_u1_ne (by omega)]
        
        refine wk_aload_n xd_e9473662 rfl ?_
        refine wk_dup_r xd_ce75e612 ?_
        refine wk_getI xf_10a5a2a9 xd_2283f7ef ?_
        refine wk_iconst xd_17405371 ?_
        refine aw_isub (a := ((w2.1 47 2).toInt : Int)) (b := (1 : Int)) (e := ((w2.1 47 2).toInt + (-1) : Int)) xd_40a08e39 rfl (show ((Int32.ofInt 1)).toInt = 1 from by decide) (by omega) (by omega) (by omega) (fun v6_ p6_ => ?_)
        refine wk_putI xf_dc8bd6a8 (fun ci => wk_fitI ci) xd_c5648123 ?_
        have hG7_ : sv_w sg (cm_u1 w2 47 2 v6_) := sv_w_u1 hG2 (by rw [xg_2e4ff086]; exact hb_mk (by rw [p6_]; omega) (by rw [p6_]; omega))
        refine wk_iconst xd_977bd831 ?_
        refine wk_ireturn xd_301efa5e xr_73896da5 wk_z1 ⟨_, _, rfl, hG7_, fun k i k1 k2 => ?_, ?_, by decide, by decide⟩
        · rw [hs_u1_ne (by omega), hF2 k i (by omega), hs_u1_ne (by omega)]
        · refine jgb_ring (w := w) (m := 0) (s := ((w.1 47 2).toInt - 1).toNat) (by omega) (by omega) hm (by omega) ?_ ?_ (fun k i k1 k2 => ?_) (fun f hf => ?_) hc
          · rw [hs_u1_ne (by omega), hF2 47 1 (by omega), hs_u1_self]
            exact p4_
          · rw [hs_u1_self, p6_]
            omega
          · rw [hs_u1_ne (by omega), hF2 k i (by omega), hs_u1_ne (by omega)]
          · rw [hs_u1_ne (by omega), hL2 f hf, hs_u1_ne (by omega)]
      · have h4_0 := aw_ne_f (a := ((w.1 47 2).toInt : Int)) (b := (0 : Int)) rfl hb_z h4_0
        refine wk_iconst xd_869d6df3 ?_
        exact wk_ireturn xd_bcd30f50 xr_73896da5 wk_z0 ⟨_, _, rfl, hG, fun _ _ _ _ => rfl, hc, by decide, by decide⟩
    · skip
      refine wk_aload_n xd_10c10f37 rfl ?_
      refine wk_getI xf_10a5a2a9 xd_eb0957ef ?_
      refine wk_if xd_e259a194 (t := 9) rfl (fun h4_0 => ?_) (fun h4_0 => ?_)
      · have h4_0 := aw_ne_t (a := ((w.1 47 2).toInt : Int)) (b := (0 : Int)) rfl hb_z h4_0
        refine wk_aload_n xd_8b0ba6c5 rfl ?_
        refine wk_aload_n xd_30c5b94b rfl ?_
        refine wk_getI xf_b555d04e xd_86a53da7 ?_
        refine wk_bipush xd_04f81b3d ?_
        refine aw_iadd (a := (2 : Int)) (b := (8 : Int)) (e := (10 : Int)) xd_cc75c179 (show ((w.1 47 1)).toInt = (2 : Int) from hm) (show (((Int8.ofInt 8).toInt32)).toInt = 8 from by decide) (by omega) (by omega) (by omega) (fun v2_ p2_ => ?_)
        refine wk_iconst xd_d0ce8b36 ?_
        refine aw_isub (a := (10 : Int)) (b := (1 : Int)) (e := (9 : Int)) xd_62d37a89 p2_ (show ((Int32.ofInt 1)).toInt = 1 from by decide) (by omega) (by omega) (by omega) (fun v3_ p3_ => ?_)
        refine wk_bipush xd_f632cafd ?_
        refine aw_irem (a := (9 : Int)) (b := (8 : Int)) xd_1e777a33 p3_ (show (((Int8.ofInt 8).toInt32)).toInt = 8 from by decide) (by omega) (by omega) (fun v4_ p4_ => ?_)
        have p4_ : v4_.toInt = 1 := p4_.trans (by decide)
        refine wk_putI xf_797ba44f (fun ci => wk_fitI ci) xd_f8ceca35 ?_
        have hG5_ : sv_w sg (cm_u1 w 47 1 v4_) := sv_w_u1 hG (by rw [xg_07bca462]; exact hb_mk (by rw [p4_]; omega) (by rw [p4_]; omega))
        refine wk_aload_n xd_ce947294 rfl ?_
        refine wk_aload_n xd_85116219 rfl ?_
        refine wk_getR xf_8fe57c36 xd_de1db487 ?_
        refine wk_aload_n xd_e9fe7544 rfl ?_
        refine wk_getI xf_b555d04e xd_93ef76c8 ?_
        refine aw_aaload (i := 1) xf_543ef029 (show (((cm_u1 w 47 1 v4_).1 47 1)).toInt = (1 : Int) from p4_) rfl xd_88805a71 rfl ?_
        obtain ⟨w2, hC2, hG2, hF2, hL2⟩ := jcp_33_56 (w := (cm_u1 w 47 1 v4_)) hG5_
        refine wk_call (kd := 0) (i := 25) xd_0a84250f rfl (wk_cal (as := [.inr (.inr (some 33)), .inr (.inr (some 56))]) (t := []) xl_222e43a1 rfl xn_437ab768 xc_33cf4b98 rfl rfl xv_c9e5fcbe rfl) hC2 ?_
        have s2 : (w2.1 47 2).toInt = (w.1 47 2).toInt := by rw [hF2 47 2 (by omega), hs_u1_ne (by omega)]
        
        refine wk_aload_n xd_e9473662 rfl ?_
        refine wk_dup_r xd_ce75e612 ?_
        refine wk_getI xf_10a5a2a9 xd_2283f7ef ?_
        refine wk_iconst xd_17405371 ?_
        refine aw_isub (a := ((w2.1 47 2).toInt : Int)) (b := (1 : Int)) (e := ((w2.1 47 2).toInt + (-1) : Int)) xd_40a08e39 rfl (show ((Int32.ofInt 1)).toInt = 1 from by decide) (by omega) (by omega) (by omega) (fun v6_ p6_ => ?_)
        refine wk_putI xf_dc8bd6a8 (fun ci => wk_fitI ci) xd_c5648123 ?_
        have hG7_ : sv_w sg (cm_u1 w2 47 2 v6_) := sv_w_u1 hG2 (by rw [xg_2e4ff086]; exact hb_mk (by rw [p6_]; omega) (by rw [p6_]; omega))
        refine wk_iconst xd_977bd831 ?_
        refine wk_ireturn xd_301efa5e xr_73896da5 wk_z1 ⟨_, _, rfl, hG7_, fun k i k1 k2 => ?_, ?_, by decide, by decide⟩
        · rw [hs_u1_ne (by omega), hF2 k i (by omega), hs_u1_ne (by omega)]
        · refine jgb_ring (w := w) (m := 1) (s := ((w.1 47 2).toInt - 1).toNat) (by omega) (by omega) hm (by omega) ?_ ?_ (fun k i k1 k2 => ?_) (fun f hf => ?_) hc
          · rw [hs_u1_ne (by omega), hF2 47 1 (by omega), hs_u1_self]
            exact p4_
          · rw [hs_u1_self, p6_]
            omega
          · rw [hs_u1_ne (by omega), hF2 k i (by omega), hs_u1_ne (by omega)]
          · rw [hs_u1_ne (by omega), hL2 f hf, hs_u1_ne (by omega)]
      · have h4_0 := aw_ne_f (a := ((w.1 47 2).toInt : Int)) (b := (0 : Int)) rfl hb_z h4_0
        refine wk_iconst xd_869d6df3 ?_
        exact wk_ireturn xd_bcd30f50 xr_73896da5 wk_z0 ⟨_, _, rfl, hG, fun _ _ _ _ => rfl, hc, by decide, by decide⟩
    · skip
      refine wk_aload_n xd_10c10f37 rfl ?_
      refine wk_getI xf_10a5a2a9 xd_eb0957ef ?_
      refine wk_if xd_e259a194 (t := 9) rfl (fun h4_0 => ?_) (fun h4_0 => ?_)
      · have h4_0 := aw_ne_t (a := ((w.1 47 2).toInt : Int)) (b := (0 : Int)) rfl hb_z h4_0
        refine wk_aload_n xd_8b0ba6c5 rfl ?_
        refine wk_aload_n xd_30c5b94b rfl ?_
        refine wk_getI xf_b555d04e xd_86a53da7 ?_
        refine wk_bipush xd_04f81b3d ?_
        refine aw_iadd (a := (3 : Int)) (b := (8 : Int)) (e := (11 : Int)) xd_cc75c179 (show ((w.1 47 1)).toInt = (3 : Int) from hm) (show (((Int8.ofInt 8).toInt32)).toInt = 8 from by decide) (by omega) (by omega) (by omega) (fun v2_ p2_ => ?_)
        refine wk_iconst xd_d0ce8b36 ?_
        refine aw_isub (a := (11 : Int)) (b := (1 : Int)) (e := (10 : Int)) xd_62d37a89 p2_ (show ((Int32.ofInt 1)).toInt = 1 from by decide) (by omega) (by omega) (by omega) (fun v3_ p3_ => ?_)
        refine wk_bipush xd_f632cafd ?_
        refine aw_irem (a := (10 : Int)) (b := (8 : Int)) xd_1e777a33 p3_ (show (((Int8.ofInt 8).toInt32)).toInt = 8 from by decide) (by omega) (by omega) (fun v4_ p4_ => ?_)
        have p4_ : v4_.toInt = 2 := p4_.trans (by decide)
        refine wk_putI xf_797ba44f (fun ci => wk_fitI ci) xd_f8ceca35 ?_
        have hG5_ : sv_w sg (cm_u1 w 47 1 v4_) := sv_w_u1 hG (by rw [xg_07bca462]; exact hb_mk (by rw [p4_]; omega) (by rw [p4_]; omega))
        refine wk_aload_n xd_ce947294 rfl ?_
        refine wk_aload_n xd_85116219 rfl ?_
        refine wk_getR xf_8fe57c36 xd_de1db487 ?_
        refine wk_aload_n xd_e9fe7544 rfl ?_
        refine wk_getI xf_b555d04e xd_93ef76c8 ?_
        refine aw_aaload (i := 2) xf_bcb1a489 (show (((cm_u1 w 47 1 v4_).1 47 1)).toInt = (2 : Int) from p4_) rfl xd_88805a71 rfl ?_
        obtain ⟨w2, hC2, hG2, hF2, hL2⟩ := jcp_33_63 (w := (cm_u1 w 47 1 v4_)) hG5_
        refine wk_call (kd := 0) (i := 25) xd_0a84250f rfl (wk_cal (as := [.inr (.inr (some 33)), .inr (.inr (some 63))]) (t := []) xl_222e43a1 rfl xn_437ab768 xc_33cf4b98 rfl rfl xv_c9e5fcbe rfl) hC2 ?_
        have s2 : (w2.1 47 2).toInt = (w.1 47 2).toInt := by rw [hF2 47 2 (by omega), hs_u1_ne (by omega)]
        
        refine wk_aload_n xd_e9473662 rfl ?_
        refine wk_dup_r xd_ce75e612 ?_
        refine wk_getI xf_10a5a2a9 xd_2283f7ef ?_
        refine wk_iconst xd_17405371 ?_
        refine aw_isub (a := ((w2.1 47 2).toInt : Int)) (b := (1 : Int)) (e := ((w2.1 47 2).toInt + (-1) : Int)) xd_40a08e39 rfl (show ((Int32.ofInt 1)).toInt = 1 from by decide) (by omega) (by omega) (by omega) (fun v6_ p6_ => ?_)
        refine wk_putI xf_dc8bd6a8 (fun ci => wk_fitI ci) xd_c5648123 ?_
        have hG7_ : sv_w sg (cm_u1 w2 47 2 v6_) := sv_w_u1 hG2 (by rw [xg_2e4ff086]; exact hb_mk (by rw [p6_]; omega) (by rw [p6_]; omega))
        refine wk_iconst xd_977bd831 ?_
        refine wk_ireturn xd_301efa5e xr_73896da5 wk_z1 ⟨_, _, rfl, hG7_, fun k i k1 k2 => ?_, ?_, by decide, by decide⟩
        · rw [hs_u1_ne (by omega), hF2 k i (by omega), hs_u1_ne (by omega)]
        · refine jgb_ring (w := w) (m := 2) (s := ((w.1 47 2).toInt - 1).toNat) (by omega) (by omega) hm (by omega) ?_ ?_ (fun k i k1 k2 => ?_) (fun f hf => ?_) hc
          · rw [hs_u1_ne (by omega), hF2 47 1 (by omega), hs_u1_self]
            exact p4_
          · rw [hs_u1_self, p6_]
            omega
          · rw [hs_u1_ne (by omega), hF2 k i (by omega), hs_u1_ne (by omega)]
          · rw [hs_u1_ne (by omega), hL2 f hf, hs_u1_ne (by omega)]
      · have h4_0 := aw_ne_f (a := ((w.1 47 2).toInt : Int)) (b := (0 : Int)) rfl hb_z h4_0
        refine wk_iconst xd_869d6df3 ?_
        exact wk_ireturn xd_bcd30f50 xr_73896da5 wk_z0 ⟨_, _, rfl, hG, fun _ _ _ _ => rfl, hc, by decide, by decide⟩
    · skip
      refine wk_aload_n xd_10c10f37 rfl ?_
      refine wk_getI xf_10a5a2a9 xd_eb0957ef ?_
      refine wk_if xd_e259a194 (t := 9) rfl (fun h4_0 => ?_) (fun h4_0 => ?_)
      · have h4_0 := aw_ne_t (a := ((w.1 47 2).toInt : Int)) (b := (0 : Int)) rfl hb_z h4_0
        refine wk_aload_n xd_8b0ba6c5 rfl ?_
        refine wk_aload_n xd_30c5b94b rfl ?_
        refine wk_getI xf_b555d04e xd_86a53da7 ?_
        refine wk_bipush xd_04f81b3d ?_
        refine aw_iadd (a := (4 : Int)) (b := (8 : Int)) (e := (12 : Int)) xd_cc75c179 (show ((w.1 47 1)).toInt = (4 : Int) from hm) (show (((Int8.ofInt 8).toInt32)).toInt = 8 from by decide) (by omega) (by omega) (by omega) (fun v2_ p2_ => ?_)
        refine wk_iconst xd_d0ce8b36 ?_
        refine aw_isub (a := (12 : Int)) (b := (1 : Int)) (e := (11 : Int)) xd_62d37a89 p2_ (show ((Int32.ofInt 1)).toInt = 1 from by decide) (by omega) (by omega) (by omega) (fun v3_ p3_ => ?_)
        refine wk_bipush xd_f632cafd ?_
        refine aw_irem (a := (11 : Int)) (b := (8 : Int)) xd_1e777a33 p3_ (show (((Int8.ofInt 8).toInt32)).toInt = 8 from by decide) (by omega) (by omega) (fun v4_ p4_ => ?_)
        have p4_ : v4_.toInt = 3 := p4_.trans (by decide)
        refine wk_putI xf_797ba44f (fun ci => wk_fitI ci) xd_f8ceca35 ?_
        have hG5_ : sv_w sg (cm_u1 w 47 1 v4_) := sv_w_u1 hG (by rw [xg_07bca462]; exact hb_mk (by rw [p4_]; omega) (by rw [p4_]; omega))
        refine wk_aload_n xd_ce947294 rfl ?_
        refine wk_aload_n xd_85116219 rfl ?_
        refine wk_getR xf_8fe57c36 xd_de1db487 ?_
        refine wk_aload_n xd_e9fe7544 rfl ?_
        refine wk_getI xf_b555d04e xd_93ef76c8 ?_
        refine aw_aaload (i := 3) xf_e4cb68e9 (show (((cm_u1 w 47 1 v4_).1 47 1)).toInt = (3 : Int) from p4_) rfl xd_88805a71 rfl ?_
        obtain ⟨w2, hC2, hG2, hF2, hL2⟩ := jcp_33_70 (w := (cm_u1 w 47 1 v4_)) hG5_
        refine wk_call (kd := 0) (i := 25) xd_0a84250f rfl (wk_cal (as := [.inr (.inr (some 33)), .inr (.inr (some 70))]) (t := []) xl_222e43a1 rfl xn_437ab768 xc_33cf4b98 rfl rfl xv_c9e5fcbe rfl) hC2 ?_
        have s2 : (w2.1 47 2).toInt = (w.1 47 2).toInt := by rw [hF2 47 2 (by omega), hs_u1_ne (by omega)]
        
        refine wk_aload_n xd_e9473662 rfl ?_
        refine wk_dup_r xd_ce75e612 ?_
        refine wk_getI xf_10a5a2a9 xd_2283f7ef ?_
        refine wk_iconst xd_17405371 ?_
        refine aw_isub (a := ((w2.1 47 2).toInt : Int)) (b := (1 : Int)) (e := ((w2.1 47 2).toInt + (-1) : Int)) xd_40a08e39 rfl (show ((Int32.ofInt 1)).toInt = 1 from by decide) (by omega) (by omega) (by omega) (fun v6_ p6_ => ?_)
        refine wk_putI xf_dc8bd6a8 (fun ci => wk_fitI ci) xd_c5648123 ?_
        have hG7_ : sv_w sg (cm_u1 w2 47 2 v6_) := sv_w_u1 hG2 (by rw [xg_2e4ff086]; exact hb_mk (by rw [p6_]; omega) (by rw [p6_]; omega))
        refine wk_iconst xd_977bd831 ?_
        refine wk_ireturn xd_301efa5e xr_73896da5 wk_z1 ⟨_, _, rfl, hG7_, fun k i k1 k2 => ?_, ?_, by decide, by decide⟩
        · rw [hs_u1_ne (by omega), hF2 k i (by omega), hs_u1_ne (by omega)]
        · refine jgb_ring (w := w) (m := 3) (s := ((w.1 47 2).toInt - 1).toNat) (by omega) (by omega) hm (by omega) ?_ ?_ (fun k i k1 k2 => ?_) (fun f hf => ?_) hc
          · rw [hs_u1_ne (by omega), hF2 47 1 (by omega), hs_u1_self]
            exact p4_
          · rw [hs_u1_self, p6_]
            omega
          · rw [hs_u1_ne (by omega), hF2 k i (by omega), hs_u1_ne (by omega)]
          · rw [hs_u1_ne (by omega), hL2 f hf, hs_u1_ne (by omega)]
      · have h4_0 := aw_ne_f (a := ((w.1 47 2).toInt : Int)) (b := (0 : Int)) rfl hb_z h4_0
        refine wk_iconst xd_869d6df3 ?_
        exact wk_ireturn xd_bcd30f50 xr_73896da5 wk_z0 ⟨_, _, rfl, hG, fun _ _ _ _ => rfl, hc, by decide, by decide⟩
    · skip
      refine wk_aload_n xd_10c10f37 rfl ?_
      refine wk_getI xf_10a5a2a9 xd_eb0957ef ?_
      refine wk_if xd_e259a194 (t := 9) rfl (fun h4_0 => ?_) (fun h4_0 => ?_)
      · have h4_0 := aw_ne_t (a := ((w.1 47 2).toInt : Int)) (b := (0 : Int)) rfl hb_z h4_0
        refine wk_aload_n xd_8b0ba6c5 rfl ?_
        refine wk_aload_n xd_30c5b94b rfl ?_
        refine wk_getI xf_b555d04e xd_86a53da7 ?_
        refine wk_bipush xd_04f81b3d ?_
        refine aw_iadd (a := (5 : Int)) (b := (8 : Int)) (e := (13 : Int)) xd_cc75c179 (show ((w.1 47 1)).toInt = (5 : Int) from hm) (show (((Int8.ofInt 8).toInt32)).toInt = 8 from by decide) (by omega) (by omega) (by omega) (fun v2_ p2_ => ?_)
        refine wk_iconst xd_d0ce8b36 ?_
        refine aw_isub (a := (13 : Int)) (b := (1 : Int)) (e := (12 : Int)) xd_62d37a89 p2_ (show ((Int32.ofInt 1)).toInt = 1 from by decide) (by omega) (by omega) (by omega) (fun v3_ p3_ => ?_)
        refine wk_bipush xd_f632cafd ?_
        refine aw_irem (a := (12 : Int)) (b := (8 : Int)) xd_1e777a33 p3_ (show (((Int8.ofInt 8).toInt32)).toInt = 8 from by decide) (by omega) (by omega) (fun v4_ p4_ => ?_)
        have p4_ : v4_.toInt = 4 := p4_.trans (by decide)
        refine wk_putI xf_797ba44f (fun ci => wk_fitI ci) xd_f8ceca35 ?_
        have hG5_ : sv_w sg (cm_u1 w 47 1 v4_) := sv_w_u1 hG (by rw [xg_07bca462]; exact hb_mk (by rw [p4_]; omega) (by rw [p4_]; omega))
        refine wk_aload_n xd_ce947294 rfl ?_
        refine wk_aload_n xd_85116219 rfl ?_
        refine wk_getR xf_8fe57c36 xd_de1db487 ?_
        refine wk_aload_n xd_e9fe7544 rfl ?_
        refine wk_getI xf_b555d04e xd_93ef76c8 ?_
        refine aw_aaload (i := 4) xf_c7357473 (show (((cm_u1 w 47 1 v4_).1 47 1)).toInt = (4 : Int) from p4_) rfl xd_88805a71 rfl ?_
        obtain ⟨w2, hC2, hG2, hF2, hL2⟩ := jcp_33_77 (w := (cm_u1 w 47 1 v4_)) hG5_
        refine wk_call (kd := 0) (i := 25) xd_0a84250f rfl (wk_cal (as := [.inr (.inr (some 33)), .inr (.inr (some 77))]) (t := []) xl_222e43a1 rfl xn_437ab768 xc_33cf4b98 rfl rfl xv_c9e5fcbe rfl) hC2 ?_
        have s2 : (w2.1 47 2).toInt = (w.1 47 2).toInt := by rw [hF2 47 2 (by omega), hs_u1_ne (by omega)]
        
        refine wk_aload_n xd_e9473662 rfl ?_
        refine wk_dup_r xd_ce75e612 ?_
        refine wk_getI xf_10a5a2a9 xd_2283f7ef ?_
        refine wk_iconst xd_17405371 ?_
        refine aw_isub (a := ((w2.1 47 2).toInt : Int)) (b := (1 : Int)) (e := ((w2.1 47 2).toInt + (-1) : Int)) xd_40a08e39 rfl (show ((Int32.ofInt 1)).toInt = 1 from by decide) (by omega) (by omega) (by omega) (fun v6_ p6_ => ?_)
        refine wk_putI xf_dc8bd6a8 (fun ci => wk_fitI ci) xd_c5648123 ?_
        have hG7_ : sv_w sg (cm_u1 w2 47 2 v6_) := sv_w_u1 hG2 (by rw [xg_2e4ff086]; exact hb_mk (by rw [p6_]; omega) (by rw [p6_]; omega))
        refine wk_iconst xd_977bd831 ?_
        refine wk_ireturn xd_301efa5e xr_73896da5 wk_z1 ⟨_, _, rfl, hG7_, fun k i k1 k2 => ?_, ?_, by decide, by decide⟩
        · rw [hs_u1_ne (by omega), hF2 k i (by omega), hs_u1_ne (by omega)]
        · refine jgb_ring (w := w) (m := 4) (s := ((w.1 47 2).toInt - 1).toNat) (by omega) (by omega) hm (by omega) ?_ ?_ (fun k i k1 k2 => ?_) (fun f hf => ?_) hc
          · rw [hs_u1_ne (by omega), hF2 47 1 (by omega), hs_u1_self]
            exact p4_
          · rw [hs_u1_self, p6_]
            omega
          · rw [hs_u1_ne (by omega), hF2 k i (by omega), hs_u1_ne (by omega)]
          · rw [hs_u1_ne (by omega), hL2 f hf, hs_u1_ne (by omega)]
      · have h4_0 := aw_ne_f (a := ((w.1 47 2).toInt : Int)) (b := (0 : Int)) rfl hb_z h4_0
        refine wk_iconst xd_869d6df3 ?_
        exact wk_ireturn xd_bcd30f50 xr_73896da5 wk_z0 ⟨_, _, rfl, hG, fun _ _ _ _ => rfl, hc, by decide, by decide⟩
    · skip
      refine wk_aload_n xd_10c10f37 rfl ?_
      refine wk_getI xf_10a5a2a9 xd_eb0957ef ?_
      refine wk_if xd_e259a194 (t := 9) rfl (fun h4_0 => ?_) (fun h4_0 => ?_)
      · have h4_0 := aw_ne_t (a := ((w.1 47 2).toInt : Int)) (b := (0 : Int)) rfl hb_z h4_0
        refine wk_aload_n xd_8b0ba6c5 rfl ?_
        refine wk_aload_n xd_30c5b94b rfl ?_
        refine wk_getI xf_b555d04e xd_86a53da7 ?_
        refine wk_bipush xd_04f81b3d ?_
        refine aw_iadd (a := (6 : Int)) (b := (8 : Int)) (e := (14 : Int)) xd_cc75c179 (show ((w.1 47 1)).toInt = (6 : Int) from hm) (show (((Int8.ofInt 8).toInt32)).toInt = 8 from by decide) (by omega) (by omega) (by omega) (fun v2_ p2_ => ?_)
        refine wk_iconst xd_d0ce8b36 ?_
        refine aw_isub (a := (14 : Int)) (b := (1 : Int)) (e := (13 : Int)) xd_62d37a89 p2_ (show ((Int32.ofInt 1)).toInt = 1 from by decide) (by omega) (by omega) (by omega) (fun v3_ p3_ => ?_)
        refine wk_bipush xd_f632cafd ?_
        refine aw_irem (a := (13 : Int)) (b := (8 : Int)) xd_1e777a33 p3_ (show (((Int8.ofInt 8).toInt32)).toInt = 8 from by decide) (by omega) (by omega) (fun v4_ p4_ => ?_)
        have p4_ : v4_.toInt = 5 := p4_.trans (by decide)
        refine wk_putI xf_797ba44f (fun ci => wk_fitI ci) xd_f8ceca35 ?_
        have hG5_ : sv_w sg (cm_u1 w 47 1 v4_) := sv_w_u1 hG (by rw [xg_07bca462]; exact hb_mk (by rw [p4_]; omega) (by rw [p4_]; omega))
        refine wk_aload_n xd_ce947294 rfl ?_
        refine wk_aload_n xd_85116219 rfl ?_
        refine wk_getR xf_8fe57c36 xd_de1db487 ?_
        refine wk_aload_n xd_e9fe7544 rfl ?_
        refine wk_getI xf_b555d04e xd_93ef76c8 ?_
        refine aw_aaload (i := 5) xf_578d6381 (show (((cm_u1 w 47 1 v4_).1 47 1)).toInt = (5 : Int) from p4_) rfl xd_88805a71 rfl ?_
        obtain ⟨w2, hC2, hG2, hF2, hL2⟩ := jcp_33_84 (w := (cm_u1 w 47 1 v4_)) hG5_
        refine wk_call (kd := 0) (i := 25) xd_0a84250f rfl (wk_cal (as := [.inr (.inr (some 33)), .inr (.inr (some 84))]) (t := []) xl_222e43a1 rfl xn_437ab768 xc_33cf4b98 rfl rfl xv_c9e5fcbe rfl) hC2 ?_
        have s2 : (w2.1 47 2).toInt = (w.1 47 2).toInt := by rw [hF2 47 2 (by omega), hs_u1_ne (by omega)]
        
        refine wk_aload_n xd_e9473662 rfl ?_
        refine wk_dup_r xd_ce75e612 ?_
        refine wk_getI xf_10a5a2a9 xd_2283f7ef ?_
        refine wk_iconst xd_17405371 ?_
        refine aw_isub (a := ((w2.1 47 2).toInt : Int)) (b := (1 : Int)) (e := ((w2.1 47 2).toInt + (-1) : Int)) xd_40a08e39 rfl (show ((Int32.ofInt 1)).toInt = 1 from by decide) (by omega) (by omega) (by omega) (fun v6_ p6_ => ?_)
        refine wk_putI xf_dc8bd6a8 (fun ci => wk_fitI ci) xd_c5648123 ?_
        have hG7_ : sv_w sg (cm_u1 w2 47 2 v6_) := sv_w_u1 hG2 (by rw [xg_2e4ff086]; exact hb_mk (by rw [p6_]; omega) (by rw [p6_]; omega))
        refine wk_iconst xd_977bd831 ?_
        refine wk_ireturn xd_301efa5e xr_73896da5 wk_z1 ⟨_, _, rfl, hG7_, fun k i k1 k2 => ?_, ?_, by decide, by decide⟩
        · rw [hs_u1_ne (by omega), hF2 k i (by omega), hs_u1_ne (by omega)]
        · refine jgb_ring (w := w) (m := 5) (s := ((w.1 47 2).toInt - 1).toNat) (by omega) (by omega) hm (by omega) ?_ ?_ (fun k i k1 k2 => ?_) (fun f hf => ?_) hc
          · rw [hs_u1_ne (by omega), hF2 47 1 (by omega), hs_u1_self]
            exact p4_
          · rw [hs_u1_self, p6_]
            omega
          · rw [hs_u1_ne (by omega), hF2 k i (by omega), hs_u1_ne (by omega)]
          · rw [hs_u1_ne (by omega), hL2 f hf, hs_u1_ne (by omega)]
      · have h4_0 := aw_ne_f (a := ((w.1 47 2).toInt : Int)) (b := (0 : Int)) rfl hb_z h4_0
        refine wk_iconst xd_869d6df3 ?_
        exact wk_ireturn xd_bcd30f50 xr_73896da5 wk_z0 ⟨_, _, rfl, hG, fun _ _ _ _ => rfl, hc, by decide, by decide⟩
    · skip
      refine wk_aload_n xd_10c10f37 rfl ?_
      refine wk_getI xf_10a5a2a9 xd_eb0957ef ?_
      refine wk_if xd_e259a194 (t := 9) rfl (fun h4_0 => ?_) (fun h4_0 => ?_)
      · have h4_0 := aw_ne_t (a := ((w.1 47 2).toInt : Int)) (b := (0 : Int)) rfl hb_z h4_0
        refine wk_aload_n xd_8b0ba6c5 rfl ?_
        refine wk_aload_n xd_30c5b94b rfl ?_
        refine wk_getI xf_b555d04e xd_86a53da7 ?_
        refine wk_bipush xd_04f81b3d ?_
        refine aw_iadd (a := (7 : Int)) (b := (8 : Int)) (e := (15 : Int)) xd_cc75c179 (show ((w.1 47 1)).toInt = (7 : Int) from hm) (show (((Int8.ofInt 8).toInt32)).toInt = 8 from by decide) (by omega) (by omega) (by omega) (fun v2_ p2_ => ?_)
        refine wk_iconst xd_d0ce8b36 ?_
        refine aw_isub (a := (15 : Int)) (b := (1 : Int)) (e := (14 : Int)) xd_62d37a89 p2_ (show ((Int32.ofInt 1)).toInt = 1 from by decide) (by omega) (by omega) (by omega) (fun v3_ p3_ => ?_)
        refine wk_bipush xd_f632cafd ?_
        refine aw_irem (a := (14 : Int)) (b := (8 : Int)) xd_1e777a33 p3_ (show (((Int8.ofInt 8).toInt32)).toInt = 8 from by decide) (by omega) (by omega) (fun v4_ p4_ => ?_)
        have p4_ : v4_.toInt = 6 := p4_.trans (by decide)
        refine wk_putI xf_797ba44f (fun ci => wk_fitI ci) xd_f8ceca35 ?_
        have hG5_ : sv_w sg (cm_u1 w 47 1 v4_) := sv_w_u1 hG (by rw [xg_07bca462]; exact hb_mk (by rw [p4_]; omega) (by rw [p4_]; omega))
        refine wk_aload_n xd_ce947294 rfl ?_
        refine wk_aload_n xd_85116219 rfl ?_
        refine wk_getR xf_8fe57c36 xd_de1db487 ?_
        refine wk_aload_n xd_e9fe7544 rfl ?_
        refine wk_getI xf_b555d04e xd_93ef76c8 ?_
        refine aw_aaload (i := 6) xf_91f41fa7 (show (((cm_u1 w 47 1 v4_).1 47 1)).toInt = (6 : Int) from p4_) rfl xd_88805a71 rfl ?_
        obtain ⟨w2, hC2, hG2, hF2, hL2⟩ := jcp_33_91 (w := (cm_u1 w 47 1 v4_)) hG5_
        refine wk_call (kd := 0) (i := 25) xd_0a84250f rfl (wk_cal (as := [.inr (.inr (some 33)), .inr (.inr (some 91))]) (t := []) xl_222e43a1 rfl xn_437ab768 xc_33cf4b98 rfl rfl xv_c9e5fcbe rfl) hC2 ?_
        have s2 : (w2.1 47 2).toInt = (w.1 47 2).toInt := by rw [hF2 47 2 (by omega), hs_u1_ne (by omega)]
        
        refine wk_aload_n xd_e9473662 rfl ?_
        refine wk_dup_r xd_ce75e612 ?_
        refine wk_getI xf_10a5a2a9 xd_2283f7ef ?_
        refine wk_iconst xd_17405371 ?_
        refine aw_isub (a := ((w2.1 47 2).toInt : Int)) (b := (1 : Int)) (e := ((w2.1 47 2).toInt + (-1) : Int)) xd_40a08e39 rfl (show ((Int32.ofInt 1)).toInt = 1 from by decide) (by omega) (by omega) (by omega) (fun v6_ p6_ => ?_)
        refine wk_putI xf_dc8bd6a8 (fun ci => wk_fitI ci) xd_c5648123 ?_
        have hG7_ : sv_w sg (cm_u1 w2 47 2 v6_) := sv_w_u1 hG2 (by rw [xg_2e4ff086]; exact hb_mk (by rw [p6_]; omega) (by rw [p6_]; omega))
        refine wk_iconst xd_977bd831 ?_
        refine wk_ireturn xd_301efa5e xr_73896da5 wk_z1 ⟨_, _, rfl, hG7_, fun k i k1 k2 => ?_, ?_, by decide, by decide⟩
        · rw [hs_u1_ne (by omega), hF2 k i (by omega), hs_u1_ne (by omega)]
        · refine jgb_ring (w := w) (m := 6) (s := ((w.1 47 2).toInt - 1).toNat) (by omega) (by omega) hm (by omega) ?_ ?_ (fun k i k1 k2 => ?_) (fun f hf => ?_) hc
          · rw [hs_u1_ne (by omega), hF2 47 1 (by omega), hs_u1_self]
            exact p4_
          · rw [hs_u1_self, p6_]
            omega
          · rw [hs_u1_ne (by omega), hF2 k i (by omega), hs_u1_ne (by omega)]
          · rw [hs_u1_ne (by omega), hL2 f hf, hs_u1_ne (by omega)]
      · have h4_0 := aw_ne_f (a := ((w.1 47 2).toInt : Int)) (b := (0 : Int)) rfl hb_z h4_0
        refine wk_iconst xd_869d6df3 ?_
        exact wk_ireturn xd_bcd30f50 xr_73896da5 wk_z0 ⟨_, _, rfl, hG, fun _ _ _ _ => rfl, hc, by decide, by decide⟩
    · skip
      refine wk_aload_n xd_10c10f37 rfl ?_
      refine wk_getI xf_10a5a2a9 xd_eb0957ef ?_
      refine wk_if xd_e259a194 (t := 9) rfl (fun h4_0 => ?_) (fun h4_0 => ?_)
      · have h4_0 := aw_ne_t (a := ((w.1 47 2).toInt : Int)) (b := (0 : Int)) rfl hb_z h4_0
        refine wk_aload_n xd_8b0ba6c5 rfl ?_
        refine wk_aload_n xd_30c5b94b rfl ?_
        refine wk_getI xf_b555d04e xd_86a53da7 ?_
        refine wk_bipush xd_04f81b3d ?_
        refine aw_iadd (a := (0 : Int)) (b := (8 : Int)) (e := (8 : Int)) xd_cc75c179 (show ((w.1 47 1)).toInt = (0 : Int) from hm) (show (((Int8.ofInt 8).toInt32)).toInt = 8 from by decide) (by omega) (by omega) (by omega) (fun v2_ p2_ => ?_)
        refine wk_iconst xd_d0ce8b36 ?_
        refine aw_isub (a := (8 : Int)) (b := (1 : Int)) (e := (7 : Int)) xd_62d37a89 p2_ (show ((Int32.ofInt 1)).toInt = 1 from by decide) (by omega) (by omega) (by omega) (fun v3_ p3_ => ?_)
        refine wk_bipush xd_f632cafd ?_
        refine aw_irem (a := (7 : Int)) (b := (8 : Int)) xd_1e777a33 p3_ (show (((Int8.ofInt 8).toInt32)).toInt = 8 from by decide) (by omega) (by omega) (fun v4_ p4_ => ?_)
        have p4_ : v4_.toInt = 7 := p4_.trans (by decide)
        refine wk_putI xf_797ba44f (fun ci => wk_fitI ci) xd_f8ceca35 ?_
        have hG5_ : sv_w sg (cm_u1 w 47 1 v4_) := sv_w_u1 hG (by rw [xg_07bca462]; exact hb_mk (by rw [p4_]; omega) (by rw [p4_]; omega))
        refine wk_aload_n xd_ce947294 rfl ?_
        refine wk_aload_n xd_85116219 rfl ?_
        refine wk_getR xf_8fe57c36 xd_de1db487 ?_
        refine wk_aload_n xd_e9fe7544 rfl ?_
        refine wk_getI xf_b555d04e xd_93ef76c8 ?_
        refine aw_aaload (i := 7) xf_4f35db4c (show (((cm_u1 w 47 1 v4_).1 47 1)).toInt = (7 : Int) from p4_) rfl xd_88805a71 rfl ?_
        obtain ⟨w2, hC2, hG2, hF2, hL2⟩ := jcp_33_98 (w := (cm_u1 w 47 1 v4_)) hG5_
        refine wk_call (kd := 0) (i := 25) xd_0a84250f rfl (wk_cal (as := [.inr (.inr (some 33)), .inr (.inr (some 98))]) (t := []) xl_222e43a1 rfl xn_437ab768 xc_33cf4b98 rfl rfl xv_c9e5fcbe rfl) hC2 ?_
        have s2 : (w2.1 47 2).toInt = (w.1 47 2).toInt := by rw [hF2 47 2 (by omega), hs_u1_ne (by omega)]
        
        refine wk_aload_n xd_e9473662 rfl ?_
        refine wk_dup_r xd_ce75e612 ?_
        refine wk_getI xf_10a5a2a9 xd_2283f7ef ?_
        refine wk_iconst xd_17405371 ?_
        refine aw_isub (a := ((w2.1 47 2).toInt : Int)) (b := (1 : Int)) (e := ((w2.1 47 2).toInt + (-1) : Int)) xd_40a08e39 rfl (show ((Int32.ofInt 1)).toInt = 1 from by decide) (by omega) (by omega) (by omega) (fun v6_ p6_ => ?_)
        refine wk_putI xf_dc8bd6a8 (fun ci => wk_fitI ci) xd_c5648123 ?_
        have hG7_ : sv_w sg (cm_u1 w2 47 2 v6_) := sv_w_u1 hG2 (by rw [xg_2e4ff086]; exact hb_mk (by rw [p6_]; omega) (by rw [p6_]; omega))
        refine wk_iconst xd_977bd831 ?_
        refine wk_ireturn xd_301efa5e xr_73896da5 wk_z1 ⟨_, _, rfl, hG7_, fun k i k1 k2 => ?_, ?_, by decide, by decide⟩
        · rw [hs_u1_ne (by omega), hF2 k i (by omega), hs_u1_ne (by omega)]
        · refine jgb_ring (w := w) (m := 7) (s := ((w.1 47 2).toInt - 1).toNat) (by omega) (by omega) hm (by omega) ?_ ?_ (fun k i k1 k2 => ?_) (fun f hf => ?_) hc
          · rw [hs_u1_ne (by omega), hF2 47 1 (by omega), hs_u1_self]
            exact p4_
          · rw [hs_u1_self, p6_]
            omega
          · rw [hs_u1_ne (by omega), hF2 k i (by omega), hs_u1_ne (by omega)]
          · rw [hs_u1_ne (by omega), hL2 f hf, hs_u1_ne (by omega)]
      · have h4_0 := aw_ne_f (a := ((w.1 47 2).toInt : Int)) (b := (0 : Int)) rfl hb_z h4_0
        refine wk_iconst xd_869d6df3 ?_
        exact wk_ireturn xd_bcd30f50 xr_73896da5 wk_z0 ⟨_, _, rfl, hG, fun _ _ _ _ => rfl, hc, by decide, by decide⟩
  obtain ⟨o, hC, x, w', rfl, a⟩ := h
  exact ⟨x, w', hC, a⟩

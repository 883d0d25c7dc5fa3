/-! ## by hand: sentence of the reference (wip/p2/gen98.py) -/
set_option maxRecDepth 100000 in
theorem xd_9433b486 : decode (ia_code 145) 0 = .ok (.aload_n 0, 1) := fdd_d (by decide +kernel)
set_option maxRecDepth 100000 in
theorem xd_0f405e52 : decode (ia_code 145) 1 = .ok (.aload_n 0, 1) := fdd_d (by decide +kernel)
set_option maxRecDepth 100000 in
theorem xd_295b0ca7 : decode (ia_code 145) 2 = .ok (.getfield 7, 3) := fdd_d (by decide +kernel)
set_option maxRecDepth 100000 in
theorem xf_6d2acb00 : wk_gf 145 7 184 2 0 = true := by decide +kernel
set_option maxRecDepth 100000 in
theorem xd_0808c022 : decode (ia_code 145) 5 = .ok (.putfield 18, 3) := fdd_d (by decide +kernel)
set_option maxRecDepth 100000 in
theorem xf_a1e3306e : wk_pf 145 18 184 3 0 = true := by decide +kernel
set_option maxRecDepth 100000 in
theorem xd_948af7a0 : decode (ia_code 145) 8 = .ok (.aload_n 0, 1) := fdd_d (by decide +kernel)
set_option maxRecDepth 100000 in
theorem xd_01d57e60 : decode (ia_code 145) 9 = .ok (.iconst 0, 1) := fdd_d (by decide +kernel)
set_option maxRecDepth 100000 in
theorem xd_0304c9d1 : decode (ia_code 145) 10 = .ok (.putfield 7, 3) := fdd_d (by decide +kernel)
set_option maxRecDepth 100000 in
theorem xf_1ae1d5e2 : wk_pf 145 7 184 2 0 = true := by decide +kernel
set_option maxRecDepth 100000 in
theorem xd_fac2f1d7 : decode (ia_code 145) 13 = .ok (.aload_n 0, 1) := fdd_d (by decide +kernel)
set_option maxRecDepth 100000 in
theorem xd_5024b477 : decode (ia_code 145) 14 = .ok (.iconst 0, 1) := fdd_d (by decide +kernel)
set_option maxRecDepth 100000 in
theorem xd_1377d155 : decode (ia_code 145) 15 = .ok (.putfield 21, 3) := fdd_d (by decide +kernel)
set_option maxRecDepth 100000 in
theorem xf_cdde7e4d : wk_pf 145 21 184 4 0 = true := by decide +kernel
set_option maxRecDepth 100000 in
theorem xd_8c9e8bcc : decode (ia_code 145) 18 = .ok (.aload_n 0, 1) := fdd_d (by decide +kernel)
set_option maxRecDepth 100000 in
theorem xd_708e9bc5 : decode (ia_code 145) 19 = .ok (.iload_n 1, 1) := fdd_d (by decide +kernel)
set_option maxRecDepth 100000 in
theorem xd_77f66928 : decode (ia_code 145) 20 = .ok (.putfield 24, 3) := fdd_d (by decide +kernel)
set_option maxRecDepth 100000 in
theorem xf_5845c865 : wk_pf 145 24 184 5 0 = true := by decide +kernel
set_option maxRecDepth 100000 in
theorem xd_dd65252c : decode (ia_code 145) 23 = .ok (.return_, 1) := fdd_d (by decide +kernel)
set_option maxRecDepth 100000 in
theorem xr_fe04cad7 : ia_ret 145 = none := by decide +kernel
set_option maxRecDepth 100000 in
theorem xm_f6b2de33 : ia_maxL 145 = 2 := by decide +kernel
set_option maxRecDepth 100000 in
theorem xg_ea0e0444 : sv_g sg 184 2 = (2147483648, 2147484588) := by decide +kernel
set_option maxRecDepth 100000 in
theorem xg_ebbbf959 : sv_g sg 184 3 = (2147483648, 2147484588) := by decide +kernel
set_option maxRecDepth 100000 in
theorem xg_ee07f717 : sv_g sg 184 5 = (2147483648, 2147484588) := by decide +kernel
set_option maxRecDepth 100000 in
theorem xd_0c13fa6d : decode (ia_code 140) 48 = .ok (.iload_n 1, 1) := fdd_d (by decide +kernel)
set_option maxRecDepth 100000 in
theorem xd_e9371d20 : decode (ia_code 140) 49 = .ok (.ifCond .eq 83, 3) := fdd_d (by decide +kernel)
set_option maxRecDepth 100000 in
theorem xd_077af558 : decode (ia_code 140) 52 = .ok (.aload_n 0, 1) := fdd_d (by decide +kernel)
set_option maxRecDepth 100000 in
theorem xd_6cedb5ce : decode (ia_code 140) 53 = .ok (.getfield 426, 3) := fdd_d (by decide +kernel)
set_option maxRecDepth 100000 in
theorem xf_2e8acacf : wk_gf 140 426 184 43 0 = true := by decide +kernel
set_option maxRecDepth 100000 in
theorem xd_005745ea : decode (ia_code 140) 56 = .ok (.ifCond .eq 45, 3) := fdd_d (by decide +kernel)
set_option maxRecDepth 100000 in
theorem xd_d50f777f : decode (ia_code 140) 101 = .ok (.aload_n 0, 1) := fdd_d (by decide +kernel)
set_option maxRecDepth 100000 in
theorem xd_6d7fd16c : decode (ia_code 140) 102 = .ok (.getfield 426, 3) := fdd_d (by decide +kernel)
set_option maxRecDepth 100000 in
theorem xd_3a1b47db : decode (ia_code 140) 105 = .ok (.ifCond .eq 13, 3) := fdd_d (by decide +kernel)
set_option maxRecDepth 100000 in
theorem xd_cfe0bbaa : decode (ia_code 140) 118 = .ok (.aload_n 0, 1) := fdd_d (by decide +kernel)
set_option maxRecDepth 100000 in
theorem xl_28789060 : ia_pl (ia_cls 140) 437 = some (1, 134, 0, 0, 2048) := by decide +kernel
set_option maxRecDepth 100000 in
theorem xn_33636405 : ia_na 134 = 1 := by decide +kernel
set_option maxRecDepth 100000 in
theorem xc_9bb021e3 : ia_mc 134 = 0 ∧ ia_ms 134 = 0 := ⟨by decide +kernel, by decide +kernel⟩
set_option maxRecDepth 100000 in
theorem xv_42f58ced : cm_rcv 134 [.inr (.inr (some 184))] = true := by decide +kernel
set_option maxRecDepth 100000 in
theorem xd_009d0f25 : decode (ia_code 140) 119 = .ok (.invokevirtual 437, 3) := fdd_d (by decide +kernel)
set_option maxRecDepth 100000 in
theorem xd_8b46e32d : decode (ia_code 140) 122 = .ok (.ifCond .ne (-74), 3) := fdd_d (by decide +kernel)
set_option maxRecDepth 100000 in
theorem xd_4ab8efa4 : decode (ia_code 140) 125 = .ok (.iconst (-1), 1) := fdd_d (by decide +kernel)
set_option maxRecDepth 100000 in
theorem xd_7a8d23de : decode (ia_code 140) 126 = .ok (.aload_n 0, 1) := fdd_d (by decide +kernel)
set_option maxRecDepth 100000 in
theorem xd_f05b9c13 : decode (ia_code 140) 127 = .ok (.getfield 170, 3) := fdd_d (by decide +kernel)
set_option maxRecDepth 100000 in
theorem xf_c4b0f69c : wk_gf 140 170 184 16 0 = true := by decide +kernel
set_option maxRecDepth 100000 in
theorem xd_98cc436b : decode (ia_code 140) 130 = .ok (.isub, 1) := fdd_d (by decide +kernel)
set_option maxRecDepth 100000 in
theorem xd_527d89e5 : decode (ia_code 140) 131 = .ok (.ireturn, 1) := fdd_d (by decide +kernel)
set_option maxRecDepth 100000 in
theorem xr_7245c6db : ia_ret 140 = some .int := by decide +kernel
set_option maxRecDepth 100000 in
theorem xd_71268f43 : decode (ia_code 140) 59 = .ok (.aload_n 0, 1) := fdd_d (by decide +kernel)
set_option maxRecDepth 100000 in
theorem xd_ed539f4a : decode (ia_code 140) 60 = .ok (.getfield 150, 3) := fdd_d (by decide +kernel)
set_option maxRecDepth 100000 in
theorem xf_23b88666 : wk_gf 140 150 184 11 0 = true := by decide +kernel
set_option maxRecDepth 100000 in
theorem xd_927567cc : decode (ia_code 140) 63 = .ok (.ifCond .ne 38, 3) := fdd_d (by decide +kernel)
set_option maxRecDepth 100000 in
theorem xd_4ec5de8d : decode (ia_code 140) 108 = .ok (.aload_n 0, 1) := fdd_d (by decide +kernel)
set_option maxRecDepth 100000 in
theorem xl_95c67c0c : ia_pl (ia_cls 140) 435 = some (1, 243, 0, 0, 2044) := by decide +kernel
set_option maxRecDepth 100000 in
theorem xn_adae9230 : ia_na 243 = 1 := by decide +kernel
set_option maxRecDepth 100000 in
theorem xc_7731ce5c : ia_mc 243 = 0 ∧ ia_ms 243 = 0 := ⟨by decide +kernel, by decide +kernel⟩
set_option maxRecDepth 100000 in
theorem xv_b674f7af : cm_rcv 243 [.inr (.inr (some 184))] = true := by decide +kernel
set_option maxRecDepth 100000 in
theorem xd_8b8759ef : decode (ia_code 140) 109 = .ok (.invokevirtual 435, 3) := fdd_d (by decide +kernel)
set_option maxRecDepth 100000 in
theorem xd_3e19d1ea : decode (ia_code 140) 112 = .ok (.ifCond .ne (-64), 3) := fdd_d (by decide +kernel)
set_option maxRecDepth 100000 in
theorem xd_39acb335 : decode (ia_code 140) 115 = .ok (.goto 10, 3) := fdd_d (by decide +kernel)
set_option maxRecDepth 100000 in
theorem xd_5f38fde3 : decode (ia_code 140) 66 = .ok (.aload_n 0, 1) := fdd_d (by decide +kernel)
set_option maxRecDepth 100000 in
theorem xl_96df8d60 : ia_pl (ia_cls 140) 429 = some (1, 276, 0, 0, 2032) := by decide +kernel
set_option maxRecDepth 100000 in
theorem xd_4a934236 : decode (ia_code 140) 67 = .ok (.invokevirtual 429, 3) := fdd_d (by decide +kernel)
set_option maxRecDepth 100000 in
theorem xd_33d7eabe : decode (ia_code 140) 70 = .ok (.aload_n 0, 1) := fdd_d (by decide +kernel)
set_option maxRecDepth 100000 in
theorem xd_d2e8d2e0 : decode (ia_code 140) 71 = .ok (.bipush 22, 2) := fdd_d (by decide +kernel)
set_option maxRecDepth 100000 in
theorem xl_797ddbbf : ia_pl (ia_cls 140) 432 = some (1, 269, 0, 0, 2040) := by decide +kernel
set_option maxRecDepth 100000 in
theorem xd_3c5a066c : decode (ia_code 140) 73 = .ok (.invokevirtual 432, 3) := fdd_d (by decide +kernel)
set_option maxRecDepth 100000 in
theorem xd_de1d98c4 : decode (ia_code 140) 76 = .ok (.aload_n 0, 1) := fdd_d (by decide +kernel)
set_option maxRecDepth 100000 in
theorem xd_92b5929c : decode (ia_code 140) 77 = .ok (.getfield 410, 3) := fdd_d (by decide +kernel)
set_option maxRecDepth 100000 in
theorem xf_67cd7098 : wk_gf 140 410 184 41 0 = true := by decide +kernel
set_option maxRecDepth 100000 in
theorem xd_f5fc9b45 : decode (ia_code 140) 80 = .ok (.ifCond .le 16, 3) := fdd_d (by decide +kernel)
set_option maxRecDepth 100000 in
theorem xd_b3440e98 : decode (ia_code 140) 96 = .ok (.iconst 0, 1) := fdd_d (by decide +kernel)
set_option maxRecDepth 100000 in
theorem xd_c733a0e1 : decode (ia_code 140) 97 = .ok (.istore_n 1, 1) := fdd_d (by decide +kernel)
set_option maxRecDepth 100000 in
theorem xm_495561d5 : ia_maxL 140 = 3 := by decide +kernel
set_option maxRecDepth 100000 in
theorem xd_fdebc456 : decode (ia_code 140) 98 = .ok (.goto (-50), 3) := fdd_d (by decide +kernel)
set_option maxRecDepth 100000 in
theorem xd_a627d84a : decode (ia_code 140) 83 = .ok (.aload_n 0, 1) := fdd_d (by decide +kernel)
set_option maxRecDepth 100000 in
theorem xd_3b07047c : decode (ia_code 140) 84 = .ok (.iconst 1, 1) := fdd_d (by decide +kernel)
set_option maxRecDepth 100000 in
theorem xl_d5615fa2 : ia_pl (ia_cls 140) 176 = some (1, 94, 0, 0, 1675) := by decide +kernel
set_option maxRecDepth 100000 in
theorem xd_7da2993a : decode (ia_code 140) 85 = .ok (.invokevirtual 176, 3) := fdd_d (by decide +kernel)
set_option maxRecDepth 100000 in
theorem xd_9ee0e7ad : decode (ia_code 140) 88 = .ok (.pop, 1) := fdd_d (by decide +kernel)
set_option maxRecDepth 100000 in
theorem xd_fc7a543d : decode (ia_code 140) 89 = .ok (.iconst (-1), 1) := fdd_d (by decide +kernel)
set_option maxRecDepth 100000 in
theorem xd_51e78450 : decode (ia_code 140) 90 = .ok (.aload_n 0, 1) := fdd_d (by decide +kernel)
set_option maxRecDepth 100000 in
theorem xd_57d108da : decode (ia_code 140) 91 = .ok (.getfield 170, 3) := fdd_d (by decide +kernel)
set_option maxRecDepth 100000 in
theorem xd_52fff486 : decode (ia_code 140) 94 = .ok (.isub, 1) := fdd_d (by decide +kernel)
set_option maxRecDepth 100000 in
theorem xd_e71393b5 : decode (ia_code 140) 95 = .ok (.ireturn, 1) := fdd_d (by decide +kernel)
set_option maxRecDepth 100000 in
theorem xd_9c96c8be : decode (ia_code 140) 145 = .ok (.iload_n 2, 1) := fdd_d (by decide +kernel)
set_option maxRecDepth 100000 in
theorem xd_b5224008 : decode (ia_code 140) 146 = .ok (.iconst 3, 1) := fdd_d (by decide +kernel)
set_option maxRecDepth 100000 in
theorem xd_51c39b5a : decode (ia_code 140) 147 = .ok (.aload_n 0, 1) := fdd_d (by decide +kernel)
set_option maxRecDepth 100000 in
theorem xd_3cf55441 : decode (ia_code 140) 148 = .ok (.getfield 407, 3) := fdd_d (by decide +kernel)
set_option maxRecDepth 100000 in
theorem xf_92e1ef45 : wk_gf 140 407 184 39 0 = true := by decide +kernel
set_option maxRecDepth 100000 in
theorem xd_6293a76b : decode (ia_code 140) 151 = .ok (.imul, 1) := fdd_d (by decide +kernel)
set_option maxRecDepth 100000 in
theorem xd_ea75d6b2 : decode (ia_code 140) 152 = .ok (.if_icmp .ge 24, 3) := fdd_d (by decide +kernel)
set_option maxRecDepth 100000 in
theorem xd_92aed8a6 : decode (ia_code 140) 176 = .ok (.aload_n 0, 1) := fdd_d (by decide +kernel)
set_option maxRecDepth 100000 in
theorem xd_bac328d3 : decode (ia_code 140) 177 = .ok (.getfield 423, 3) := fdd_d (by decide +kernel)
set_option maxRecDepth 100000 in
theorem xf_31139d40 : wk_gf 140 423 184 40 0 = true := by decide +kernel
set_option maxRecDepth 100000 in
theorem xd_4d9c813b : decode (ia_code 140) 180 = .ok (.ireturn, 1) := fdd_d (by decide +kernel)
set_option maxRecDepth 100000 in
theorem xd_3d702d94 : decode (ia_code 140) 155 = .ok (.aload_n 0, 1) := fdd_d (by decide +kernel)
set_option maxRecDepth 100000 in
theorem xd_113d62d7 : decode (ia_code 140) 156 = .ok (.getfield 33, 3) := fdd_d (by decide +kernel)
set_option maxRecDepth 100000 in
theorem xf_973724d5 : wk_gf 140 33 184 6 (186 + 3) = true := by decide +kernel
set_option maxRecDepth 100000 in
theorem xd_84299e0e : decode (ia_code 140) 159 = .ok (.bipush 121, 2) := fdd_d (by decide +kernel)
set_option maxRecDepth 100000 in
theorem xd_45f1a522 : decode (ia_code 140) 161 = .ok (.iload_n 2, 1) := fdd_d (by decide +kernel)
set_option maxRecDepth 100000 in
theorem xd_14190c2b : decode (ia_code 140) 162 = .ok (.iadd, 1) := fdd_d (by decide +kernel)
set_option maxRecDepth 100000 in
theorem xd_88a4f6c6 : decode (ia_code 140) 163 = .ok (.aload_n 0, 1) := fdd_d (by decide +kernel)
set_option maxRecDepth 100000 in
theorem xd_29a9e31a : decode (ia_code 140) 164 = .ok (.getfield 40, 3) := fdd_d (by decide +kernel)
set_option maxRecDepth 100000 in
theorem xf_e2b26f6c : wk_gf 140 40 184 8 (188 + 3) = true := by decide +kernel
set_option maxRecDepth 100000 in
theorem xd_a83bd758 : decode (ia_code 140) 167 = .ok (.iload_n 2, 1) := fdd_d (by decide +kernel)
set_option maxRecDepth 100000 in
theorem xd_8f1094fd : decode (ia_code 140) 168 = .ok (.iaload, 1) := fdd_d (by decide +kernel)
set_option maxRecDepth 100000 in
theorem xd_9b3b84d2 : decode (ia_code 140) 169 = .ok (.iastore, 1) := fdd_d (by decide +kernel)
set_option maxRecDepth 100000 in
theorem xh_8ea5ffba : ∀ i, i < 180 → sv_g sg 186 (121 + i) = sv_top := by decide +kernel
set_option maxRecDepth 100000 in
theorem xd_f99072dc : decode (ia_code 140) 170 = .ok (.iinc 2 1, 3) := fdd_d (by decide +kernel)
set_option maxRecDepth 100000 in
theorem xd_ba2ca106 : decode (ia_code 140) 173 = .ok (.goto (-28), 3) := fdd_d (by decide +kernel)
set_option maxRecDepth 100000 in
theorem xd_fbf4e76a : decode (ia_code 140) 132 = .ok (.aload_n 0, 1) := fdd_d (by decide +kernel)
set_option maxRecDepth 100000 in
theorem xd_70d56593 : decode (ia_code 140) 133 = .ok (.getfield 33, 3) := fdd_d (by decide +kernel)
set_option maxRecDepth 100000 in
theorem xd_3187d0d1 : decode (ia_code 140) 136 = .ok (.bipush 120, 2) := fdd_d (by decide +kernel)
set_option maxRecDepth 100000 in
theorem xd_16db77a5 : decode (ia_code 140) 138 = .ok (.aload_n 0, 1) := fdd_d (by decide +kernel)
set_option maxRecDepth 100000 in
theorem xd_093db450 : decode (ia_code 140) 139 = .ok (.getfield 407, 3) := fdd_d (by decide +kernel)
set_option maxRecDepth 100000 in
theorem xd_eb87c6c7 : decode (ia_code 140) 142 = .ok (.iastore, 1) := fdd_d (by decide +kernel)
set_option maxRecDepth 100000 in
theorem xg_8f0e2d98 : sv_g sg 186 120 = (2147483648, 2147483688) := by decide +kernel
set_option maxRecDepth 100000 in
theorem xd_b90bcd18 : decode (ia_code 140) 143 = .ok (.iconst 0, 1) := fdd_d (by decide +kernel)
set_option maxRecDepth 100000 in
theorem xd_0940896f : decode (ia_code 140) 144 = .ok (.istore_n 2, 1) := fdd_d (by decide +kernel)
set_option maxRecDepth 100000 in
theorem xd_59ba84cf : decode (ia_code 140) 0 = .ok (.aload_n 0, 1) := fdd_d (by decide +kernel)
set_option maxRecDepth 100000 in
theorem xd_e6a08295 : decode (ia_code 140) 1 = .ok (.iconst 0, 1) := fdd_d (by decide +kernel)
set_option maxRecDepth 100000 in
theorem xd_1eaeb975 : decode (ia_code 140) 2 = .ok (.putfield 1, 3) := fdd_d (by decide +kernel)
set_option maxRecDepth 100000 in
theorem xf_a97f0ddc : wk_pf 140 1 184 0 0 = true := by decide +kernel
set_option maxRecDepth 100000 in
theorem xd_c295cf88 : decode (ia_code 140) 5 = .ok (.aload_n 0, 1) := fdd_d (by decide +kernel)
set_option maxRecDepth 100000 in
theorem xd_d0245217 : decode (ia_code 140) 6 = .ok (.sipush 200, 3) := fdd_d (by decide +kernel)
set_option maxRecDepth 100000 in
theorem xl_a46b7a99 : ia_pl (ia_cls 140) 232 = some (1, 145, 0, 0, 1642) := by decide +kernel
set_option maxRecDepth 100000 in
theorem xn_8a0f2cb7 : ia_na 145 = 2 := by decide +kernel
set_option maxRecDepth 100000 in
theorem xc_11bee548 : ia_mc 145 = 0 ∧ ia_ms 145 = 0 := ⟨by decide +kernel, by decide +kernel⟩
set_option maxRecDepth 100000 in
theorem xv_8b88ab9c : cm_rcv 145 [.inr (.inr (some 184))] = true := by decide +kernel
set_option maxRecDepth 100000 in
theorem xd_e9e171a2 : decode (ia_code 140) 9 = .ok (.invokevirtual 232, 3) := fdd_d (by decide +kernel)
set_option maxRecDepth 100000 in
theorem xd_6e7c6b07 : decode (ia_code 140) 12 = .ok (.aload_n 0, 1) := fdd_d (by decide +kernel)
set_option maxRecDepth 100000 in
theorem xd_f874ba7e : decode (ia_code 140) 13 = .ok (.iconst 0, 1) := fdd_d (by decide +kernel)
set_option maxRecDepth 100000 in
theorem xd_7e1ab808 : decode (ia_code 140) 14 = .ok (.putfield 167, 3) := fdd_d (by decide +kernel)
set_option maxRecDepth 100000 in
theorem xf_92d6a76b : wk_pf 140 167 184 15 0 = true := by decide +kernel
set_option maxRecDepth 100000 in
theorem xg_68f72906 : sv_g sg 184 15 = sv_top := by decide +kernel
set_option maxRecDepth 100000 in
theorem xd_f5532040 : decode (ia_code 140) 17 = .ok (.aload_n 0, 1) := fdd_d (by decide +kernel)
set_option maxRecDepth 100000 in
theorem xd_784f313e : decode (ia_code 140) 18 = .ok (.iconst 0, 1) := fdd_d (by decide +kernel)
set_option maxRecDepth 100000 in
theorem xd_62db6947 : decode (ia_code 140) 19 = .ok (.putfield 407, 3) := fdd_d (by decide +kernel)
set_option maxRecDepth 100000 in
theorem xf_e070cf1b : wk_pf 140 407 184 39 0 = true := by decide +kernel
set_option maxRecDepth 100000 in
theorem xd_3662c22f : decode (ia_code 140) 22 = .ok (.aload_n 0, 1) := fdd_d (by decide +kernel)
set_option maxRecDepth 100000 in
theorem xd_8e918343 : decode (ia_code 140) 23 = .ok (.iconst 0, 1) := fdd_d (by decide +kernel)
set_option maxRecDepth 100000 in
theorem xd_f1a75eba : decode (ia_code 140) 24 = .ok (.putfield 423, 3) := fdd_d (by decide +kernel)
set_option maxRecDepth 100000 in
theorem xf_4382bd1e : wk_pf 140 423 184 40 0 = true := by decide +kernel
set_option maxRecDepth 100000 in
theorem xd_ad4d8968 : decode (ia_code 140) 27 = .ok (.aload_n 0, 1) := fdd_d (by decide +kernel)
set_option maxRecDepth 100000 in
theorem xd_0eaa0803 : decode (ia_code 140) 28 = .ok (.iconst 0, 1) := fdd_d (by decide +kernel)
set_option maxRecDepth 100000 in
theorem xd_a8334b31 : decode (ia_code 140) 29 = .ok (.putfield 410, 3) := fdd_d (by decide +kernel)
set_option maxRecDepth 100000 in
theorem xf_155c50c6 : wk_pf 140 410 184 41 0 = true := by decide +kernel
set_option maxRecDepth 100000 in
theorem xd_b747a708 : decode (ia_code 140) 32 = .ok (.aload_n 0, 1) := fdd_d (by decide +kernel)
set_option maxRecDepth 100000 in
theorem xd_28824027 : decode (ia_code 140) 33 = .ok (.iconst 1, 1) := fdd_d (by decide +kernel)
set_option maxRecDepth 100000 in
theorem xd_ec3f9195 : decode (ia_code 140) 34 = .ok (.putfield 417, 3) := fdd_d (by decide +kernel)
set_option maxRecDepth 100000 in
theorem xf_def9978e : wk_pf 140 417 184 42 0 = true := by decide +kernel
set_option maxRecDepth 100000 in
theorem xd_2c68ec4f : decode (ia_code 140) 37 = .ok (.aload_n 0, 1) := fdd_d (by decide +kernel)
set_option maxRecDepth 100000 in
theorem xd_95d9e2d7 : decode (ia_code 140) 38 = .ok (.iconst 0, 1) := fdd_d (by decide +kernel)
set_option maxRecDepth 100000 in
theorem xd_cf6bd77e : decode (ia_code 140) 39 = .ok (.putfield 426, 3) := fdd_d (by decide +kernel)
set_option maxRecDepth 100000 in
theorem xf_90b1ea0f : wk_pf 140 426 184 43 1 = true := by decide +kernel
set_option maxRecDepth 100000 in
theorem xd_865f907f : decode (ia_code 140) 42 = .ok (.aload_n 0, 1) := fdd_d (by decide +kernel)
set_option maxRecDepth 100000 in
theorem xl_2177e1df : ia_pl (ia_cls 140) 179 = some (1, 129, 0, 0, 1646) := by decide +kernel
set_option maxRecDepth 100000 in
theorem xd_4b3c5273 : decode (ia_code 140) 43 = .ok (.invokevirtual 179, 3) := fdd_d (by decide +kernel)
set_option maxRecDepth 100000 in
theorem xd_15b22f49 : decode (ia_code 140) 46 = .ok (.iconst 1, 1) := fdd_d (by decide +kernel)
set_option maxRecDepth 100000 in
theorem xd_b50ee9a3 : decode (ia_code 140) 47 = .ok (.istore_n 1, 1) := fdd_d (by decide +kernel)
def htk (w : cm_W) (a : Int32) : cm_W := cm_u1 (cm_u1 (cm_u1 (cm_u1 w 184 3 (w.1 184 2)) 184 2 (Int32.ofInt 0)) 184 4 (Int32.ofInt 0)) 184 5 a
theorem htk_ok (w : cm_W) (a : Int32) : cm_C 1 145 [.inr (.inr (some 184)), .inl a] w (none, htk w a) := by
  refine wk_exact (d := 0) (by rw [xm_f6b2de33]; exact Nat.le_of_ble_eq_true rfl) ?_
  rw [show cm_ent 145 [.inr (.inr (some 184)), .inl a] = [some (.inr (.inr (some 184))), some (.inl a)] from by unfold cm_ent; rw [xm_f6b2de33]; rfl]
  refine wk_aload_n xd_9433b486 rfl ?_
  refine wk_aload_n xd_0f405e52 rfl ?_
  refine wk_getI xf_6d2acb00 xd_295b0ca7 ?_
  refine wk_putI xf_a1e3306e (fun ci => wk_fitI ci) xd_0808c022 ?_
  refine wk_aload_n xd_948af7a0 rfl ?_
  refine wk_iconst xd_01d57e60 ?_
  refine wk_putI xf_1ae1d5e2 (fun ci => wk_fitI ci) xd_0304c9d1 ?_
  refine wk_aload_n xd_fac2f1d7 rfl ?_
  refine wk_iconst xd_5024b477 ?_
  refine wk_putI xf_cdde7e4d (fun ci => wk_fitI ci) xd_1377d155 ?_
  refine wk_aload_n xd_8c9e8bcc rfl ?_
  refine wk_iload_n xd_708e9bc5 rfl ?_
  refine wk_putI xf_5845c865 (fun ci => wk_fitI ci) xd_77f66928 ?_
  exact wk_return xd_dd65252c xr_fe04cad7 rfl
theorem htk_G {w : cm_W} {a : Int32} (h0 : 0 ≤ a.toInt) (h1 : a.toInt ≤ 940) (hG : sv_w sg w) : sv_w sg (htk w a) := by
  have h := hG 184 2
  rw [xg_ea0e0444] at h
  refine sv_w_u1 (sv_w_u1 (sv_w_u1 (sv_w_u1 hG ?_) ?_) ?_) ?_
  · rw [xg_ebbbf959]; exact h
  · rw [xg_ea0e0444]; exact hb_mk (by decide) (by decide)
  · rw [xg_efb20a0a]; exact hb_mk (by decide) (by decide)
  · rw [xg_ee07f717]; exact hb_mk (by omega) (by omega)
theorem hse_l (w0 : cm_W) (Q : cm_O → Prop) (hk1 : ∀ w x, hFs w0 w → sv_w sg w → Q (some (.inl x), w)) (hk2 : ∀ w c n H, hJs w c 0 n 1 H → hFs w0 w → sv_w sg w → cm_X (cm_C 4) 140 132 [some (.inr (.inr (some 184))), some (.inl (Int32.ofInt 0)), none] [] w Q) : ∀ (m c t n b H : Nat) (w : cm_W), 200 * (20 - n) + 100 * b + t < m → b ≤ 1 → hJs w c t n b H → hFs w0 w → sv_w sg w → cm_X (cm_C 4) 140 48 [some (.inr (.inr (some 184))), some (.inl (Int32.ofInt 1)), none] [] w Q := by
  intro m
  induction m with
  | zero =>
    intro c t n b H w hm
    omega
  | succ m ih =>
    intro c t n b H w hm hb hJ hF hG
    have k4 := hJ.2.2.2.1
    have k8 := hJ.2.2.2.2.2.2.2.1
    have k9 := hJ.2.2.2.2.2.2.2.2
    have hb' : b = 0 ∨ b = 1 := by omega
    rcases hb' with rfl | rfl
    · have k4 : (w.1 184 43).toInt = (0 : Int) := k4
      refine wk_iload_n xd_0c13fa6d rfl ?_
      refine wk_if xd_e9371d20 (t := 132) rfl (fun h => absurd (aw_eq_t (show ((Int32.ofInt 1)).toInt = 1 from by decide) hb_z h) (by omega)) (fun _ => ?_)
      refine wk_aload_n xd_077af558 rfl ?_
      refine wk_getI xf_2e8acacf xd_6cedb5ce ?_
      refine wk_if xd_005745ea (t := 101) rfl (fun _ => ?_) (fun h => absurd (aw_eq_f (show ((w.1 184 43)).toInt = (0 : Int) from k4) hb_z h) (by omega))
      refine wk_aload_n xd_d50f777f rfl ?_
      refine wk_getI xf_2e8acacf xd_6d7fd16c ?_
      refine wk_if xd_3a1b47db (t := 118) rfl (fun _ => ?_) (fun h => absurd (aw_eq_f (show ((w.1 184 43)).toInt = (0 : Int) from k4) hb_z h) (by omega))
      refine wk_aload_n xd_cfe0bbaa rfl ?_
      obtain ⟨xo, w3, hC3, hF3, hG3, hx3⟩ := hop_ok (w := w) hJ hG
      refine wk_call (kd := 0) (i := 437) xd_009d0f25 rfl (wk_cal (as := [.inr (.inr (some 184))]) (t := []) xl_28789060 rfl xn_33636405 xc_9bb021e3 rfl rfl xv_42f58ced rfl) (cm_C_mono (by decide) hC3) ?_
      have hf3 := hFs_tr hF hF3
      refine wk_if xd_8b46e32d (t := 48) rfl (fun h122_3 => ?_) (fun h122_3 => ?_)
      · have h122_3 := aw_ne_t (a := ((xo).toInt : Int)) (b := (0 : Int)) rfl hb_z h122_3
        rcases hx3 with h9 | ⟨-, h9⟩
        · exact absurd h9 (by omega)
        · obtain ⟨c', t', b', H', hJ'⟩ := h9
          have g43 := hG3 184 43
          rw [xg_03c1839c] at g43
          have g43 := hb_in g43
          have q4 := hJ'.2.2.2.1
          have q8 := hJ'.2.2.2.2.2.2.2.1
          have q9 := hJ'.2.2.2.2.2.2.2.2
          exact ih c' t' _ b' H' w3 (by omega) (by omega) hJ' hf3 hG3
      · have h122_3 := aw_ne_f (a := ((xo).toInt : Int)) (b := (0 : Int)) rfl hb_z h122_3
        refine wk_iconst xd_4ab8efa4 ?_
        refine wk_aload_n xd_7a8d23de rfl ?_
        refine wk_getI xf_c4b0f69c xd_f05b9c13 ?_
        refine wk_isub xd_98cc436b ?_
        exact wk_ireturn xd_527d89e5 xr_7245c6db rfl (hk1 _ _ hf3 hG3)
    · have k4 : (w.1 184 43).toInt = (1 : Int) := k4
      refine wk_iload_n xd_0c13fa6d rfl ?_
      refine wk_if xd_e9371d20 (t := 132) rfl (fun h => absurd (aw_eq_t (show ((Int32.ofInt 1)).toInt = 1 from by decide) hb_z h) (by omega)) (fun _ => ?_)
      refine wk_aload_n xd_077af558 rfl ?_
      refine wk_getI xf_2e8acacf xd_6cedb5ce ?_
      refine wk_if xd_005745ea (t := 101) rfl (fun h => absurd (aw_eq_t (show ((w.1 184 43)).toInt = (1 : Int) from k4) hb_z h) (by omega)) (fun _ => ?_)
      refine wk_aload_n xd_71268f43 rfl ?_
      refine wk_getI xf_23b88666 xd_ed539f4a ?_
      refine wk_if xd_927567cc (t := 101) rfl (fun h63_2 => ?_) (fun h63_2 => ?_)
      · have h63_2 := aw_ne_t (a := ((w.1 184 11).toInt : Int)) (b := (0 : Int)) rfl hb_z h63_2
        refine wk_aload_n xd_d50f777f rfl ?_
        refine wk_getI xf_2e8acacf xd_6d7fd16c ?_
        refine wk_if xd_3a1b47db (t := 118) rfl (fun h => absurd (aw_eq_t (show ((w.1 184 43)).toInt = (1 : Int) from k4) hb_z h) (by omega)) (fun _ => ?_)
        refine wk_aload_n xd_4ec5de8d rfl ?_
        obtain ⟨xo, w3, hC3, hF3, hG3, hx3⟩ := hbd_ok (w := w) hJ hG
        refine wk_call (kd := 0) (i := 435) xd_8b8759ef rfl (wk_cal (as := [.inr (.inr (some 184))]) (t := []) xl_95c67c0c rfl xn_adae9230 xc_7731ce5c rfl rfl xv_b674f7af rfl) (cm_C_mono (by decide) hC3) ?_
        have hf3 := hFs_tr hF hF3
        refine wk_if xd_3e19d1ea (t := 48) rfl (fun h112_4 => ?_) (fun h112_4 => ?_)
        · have h112_4 := aw_ne_t (a := ((xo).toInt : Int)) (b := (0 : Int)) rfl hb_z h112_4
          rcases hx3 with h9 | ⟨-, h9⟩
          · exact absurd h9 (by omega)
          · obtain ⟨c', t', b', H', hJ', hm⟩ := h9
            have g43 := hG3 184 43
            rw [xg_03c1839c] at g43
            have g43 := hb_in g43
            have q4 := hJ'.2.2.2.1
            have q8 := hJ'.2.2.2.2.2.2.2.1
            have q9 := hJ'.2.2.2.2.2.2.2.2
            exact ih c' t' _ b' H' w3 (by omega) (by omega) hJ' hf3 hG3
        · have h112_4 := aw_ne_f (a := ((xo).toInt : Int)) (b := (0 : Int)) rfl hb_z h112_4
          refine wk_goto xd_39acb335 (t := 125) rfl ?_
          refine wk_iconst xd_4ab8efa4 ?_
          refine wk_aload_n xd_7a8d23de rfl ?_
          refine wk_getI xf_c4b0f69c xd_f05b9c13 ?_
          refine wk_isub xd_98cc436b ?_
          exact wk_ireturn xd_527d89e5 xr_7245c6db rfl (hk1 _ _ hf3 hG3)
      · have h63_2 := aw_ne_f (a := ((w.1 184 11).toInt : Int)) (b := (0 : Int)) rfl hb_z h63_2
        refine wk_aload_n xd_5f38fde3 rfl ?_
        obtain ⟨w1, c1, t1, H1, hC1, hJ1, hF1, hG1, ht1, -⟩ := hno_ok (w := w) hJ hG
        refine wk_call (kd := 0) (i := 429) xd_4a934236 rfl (wk_cal (as := [.inr (.inr (some 184))]) (t := []) xl_96df8d60 rfl xn_e3da6fee xc_fa74d1ed rfl rfl xv_36cad7ca rfl) (cm_C_mono (by decide) hC1) ?_
        refine wk_aload_n xd_33d7eabe rfl ?_
        refine wk_bipush xd_d2e8d2e0 ?_
        obtain ⟨w2, c2, t2, H2, hC2, hJ2, hF2, hG2, ht2, hx2⟩ := hjo_ok (w := w1) ((Int8.ofInt 22).toInt32) hJ1 hG1
        refine wk_call (kd := 0) (i := 432) xd_3c5a066c rfl (wk_cal (as := [.inr (.inr (some 184)), .inl ((Int8.ofInt 22).toInt32)]) (t := []) xl_797ddbbf rfl xn_33df7a20 xc_445d2b36 rfl rfl xv_fe70f5fc rfl) (cm_C_mono (by decide) hC2) ?_
        have hf2 := hFs_tr (hFs_tr hF hF1) hF2
        have q2 : (w2.1 184 41).toInt = ((t2 : Int) : Int) := hJ2.2.1
        refine wk_aload_n xd_de1d98c4 rfl ?_
        refine wk_getI xf_67cd7098 xd_92b5929c ?_
        refine wk_if xd_f5fc9b45 (t := 96) rfl (fun h80_5 => ?_) (fun h80_5 => ?_)
        · have h80_5 := aw_le_t (a := ((t2 : Int) : Int)) (b := (0 : Int)) (show ((w2.1 184 41)).toInt = ((t2 : Int) : Int) from q2) hb_z h80_5
          obtain rfl : t2 = 0 := by omega
          refine wk_iconst xd_b3440e98 ?_
          refine wk_istore_n xd_c733a0e1 (by rw [xm_495561d5]; rfl) rfl ?_
          refine wk_goto xd_fdebc456 (t := 48) rfl ?_
          refine wk_iload_n xd_0c13fa6d rfl ?_
          refine wk_if xd_e9371d20 (t := 132) rfl (fun _ => ?_) (fun h => absurd (aw_eq_f (show ((Int32.ofInt 0)).toInt = 0 from by decide) hb_z h) (by omega))
          exact hk2 w2 c2 n H2 hJ2 hf2 hG2
        · have h80_5 := aw_le_f (a := ((t2 : Int) : Int)) (b := (0 : Int)) (show ((w2.1 184 41)).toInt = ((t2 : Int) : Int) from q2) hb_z h80_5
          refine wk_aload_n xd_a627d84a rfl ?_
          refine wk_iconst xd_3b07047c ?_
          obtain ⟨xc7_, wc7_, hCc7_, hGc7_, hFc7_, hxc7_⟩ := xs_94_689db261 (w := w2) (a1 := (Int32.ofInt 1)) hG2
          refine wk_call (kd := 0) (i := 176) xd_7da2993a rfl (wk_cal (as := [.inr (.inr (some 184)), .inl (Int32.ofInt 1)]) (t := []) xl_d5615fa2 rfl xn_f63023b8 xc_1907b494 rfl rfl xv_a1095a1b rfl) (cm_C_mono (by decide) hCc7_) ?_
          have hf8_ : hFs w0 wc7_ := fun k i x1 x2 x3 => ((hFc7_ k i (by omega)).1).trans (hf2 k i x1 x2 x3)
          refine wk_pop xd_9ee0e7ad ?_
          refine wk_iconst xd_fc7a543d ?_
          refine wk_aload_n xd_51e78450 rfl ?_
          refine wk_getI xf_c4b0f69c xd_57d108da ?_
          refine wk_isub xd_52fff486 ?_
          exact wk_ireturn xd_e71393b5 xr_7245c6db rfl (hk1 _ _ hf8_ hGc7_)
def hCo (w1 w : cm_W) (i : Nat) : Prop := (∀ j, j < i → w.1 186 (121 + j) = w1.1 188 j) ∧ (∀ k j, ¬ (k = 186 ∧ 121 ≤ j ∧ j < 241) → w.1 k j = w1.1 k j) ∧ w.1 186 120 = w1.1 186 120
theorem hsc_l (w1 : cm_W) (c : Nat) (hc40 : c ≤ 40) (h39 : (w1.1 184 39).toInt = (c : Int)) (Q : cm_O → Prop) (hk : ∀ x w, hCo w1 w (3 * c) → sv_w sg w → Q (some (.inl x), w)) : ∀ (m i : Nat) (z : Int32) (w : cm_W), m + i = 3 * c → z.toInt = (i : Int) → hCo w1 w i → sv_w sg w → cm_X (cm_C 4) 140 145 [some (.inr (.inr (some 184))), some (.inl (Int32.ofInt 0)), some (.inl z)] [] w Q := by
  intro m
  induction m with
  | zero =>
    intro i z w hi hz hC hG
    have e39 : (w.1 184 39).toInt = ((c : Int) : Int) := by rw [hC.2.1 184 39 (by omega)]; exact h39
    refine wk_iload_n xd_9c96c8be rfl ?_
    refine wk_iconst xd_b5224008 ?_
    refine wk_aload_n xd_51c39b5a rfl ?_
    refine wk_getI xf_92e1ef45 xd_3cf55441 ?_
    refine aw_imul (a := (3 : Int)) (b := ((c : Int) : Int)) (e := (3 * (c : Int) : Int)) xd_6293a76b (show ((Int32.ofInt 3)).toInt = 3 from by decide) (show ((w.1 184 39)).toInt = ((c : Int) : Int) from e39) (by omega) (by omega) (by omega) (fun v1_ p1_ => ?_)
    refine wk_icmp xd_ea75d6b2 (t := 176) rfl (fun h152_1 => ?_) (fun h152_1 => ?_)
    · have h152_1 := aw_ge_t (a := ((i : Int) : Int)) (b := (3 * (c : Int) : Int)) hz p1_ h152_1
      refine wk_aload_n xd_92aed8a6 rfl ?_
      refine wk_getI xf_31139d40 xd_bac328d3 ?_
      exact wk_ireturn xd_4d9c813b xr_7245c6db rfl (hk _ w (by rw [← (show i = 3 * c by omega)]; exact hC) hG)
    · have h152_1 := aw_ge_f (a := ((i : Int) : Int)) (b := (3 * (c : Int) : Int)) hz p1_ h152_1
      exfalso
      omega
  | succ m ih =>
    intro i z w hi hz hC hG
    have e39 : (w.1 184 39).toInt = ((c : Int) : Int) := by rw [hC.2.1 184 39 (by omega)]; exact h39
    refine wk_iload_n xd_9c96c8be rfl ?_
    refine wk_iconst xd_b5224008 ?_
    refine wk_aload_n xd_51c39b5a rfl ?_
    refine wk_getI xf_92e1ef45 xd_3cf55441 ?_
    refine aw_imul (a := (3 : Int)) (b := ((c : Int) : Int)) (e := (3 * (c : Int) : Int)) xd_6293a76b (show ((Int32.ofInt 3)).toInt = 3 from by decide) (show ((w.1 184 39)).toInt = ((c : Int) : Int) from e39) (by omega) (by omega) (by omega) (fun v3_ p3_ => ?_)
    refine wk_icmp xd_ea75d6b2 (t := 176) rfl (fun h152_3 => ?_) (fun h152_3 => ?_)
    · have h152_3 := aw_ge_t (a := ((i : Int) : Int)) (b := (3 * (c : Int) : Int)) hz p3_ h152_3
      exfalso
      omega
    · have h152_3 := aw_ge_f (a := ((i : Int) : Int)) (b := (3 * (c : Int) : Int)) hz p3_ h152_3
      refine wk_aload_n xd_3d702d94 rfl ?_
      refine wk_getR xf_973724d5 xd_113d62d7 ?_
      refine wk_bipush xd_84299e0e ?_
      refine wk_iload_n xd_45f1a522 rfl ?_
      refine aw_iadd (a := (121 : Int)) (b := ((i : Int) : Int)) (e := ((i : Int) + 121 : Int)) xd_14190c2b (show (((Int8.ofInt 121).toInt32)).toInt = 121 from by decide) hz (by omega) (by omega) (by omega) (fun v5_ p5_ => ?_)
      refine wk_aload_n xd_88a4f6c6 rfl ?_
      refine wk_getR xf_e2b26f6c xd_29a9e31a ?_
      refine wk_iload_n xd_a83bd758 rfl ?_
      refine aw_iaload (i := i) xf_659780ae hz (by omega) (by omega) xd_8f1094fd ?_
      refine aw_iastore (i := (121 + i)) xf_31d67ad9 p5_ (by omega) (by omega) xd_9b3b84d2 ?_
      have hG6_ : sv_w sg (cm_u1 w 186 (121 + i) (w.1 188 i)) := sv_w_u1 hG (by rw [show (121 + i) = 121 + ((121 + i) - 121) from by omega, xh_8ea5ffba ((121 + i) - 121) (by omega)]; exact sv_in_top _)
      refine aw_iinc (a := ((i : Int) : Int)) (b := (1 : Int)) (e := ((i : Int) + 1 : Int)) xd_f99072dc (by rw [xm_495561d5]; rfl) rfl rfl hz (show ((Int32.ofInt 1)).toInt = 1 from by decide) (by omega) (by omega) (by omega) (fun v7_ p7_ => ?_)
      refine wk_goto xd_ba2ca106 (t := 145) rfl ?_
      refine ih (i + 1) _ _ (by omega) (by rw [p7_]; omega) ⟨fun j hj => ?_, fun k j hkj => (hs_u1_ne (by omega)).trans (hC.2.1 k j hkj), (hs_u1_ne (by omega)).trans hC.2.2⟩ hG6_
      by_cases e : j = i
      · rw [e, hs_u1_self]
        exact hC.2.1 188 i (by omega)
      · rw [hs_u1_ne (by omega)]
        exact hC.1 j (by omega)
theorem hPs_fr {w w' : cm_W} (h : ∀ i, w'.1 186 i = w.1 186 i) (hP : hPs w) : hPs w' := by
  obtain ⟨c, hc, h1⟩ := hP
  exact ⟨c, by rw [h 120]; exact hc, hPf_eq (fun j _ => (h (121 + j)).symm) h1⟩
/-- sentence of the reference ends -/
theorem hse_ok {w : cm_W} (hP : hPs w) (hG : sv_w sg w) : ∃ x w', cm_C 5 140 [.inr (.inr (some 184))] w (some (.inl x), w') ∧ sv_w sg w' ∧ hPs w' ∧ (∀ k i, k ≠ 184 → k ≠ 188 → k ≠ 199 → ¬ (k = 186 ∧ 120 ≤ i) → w'.1 k i = w.1 k i) ∧ (w'.1 184 2).toInt = 0 := by
  have h : ∃ o, cm_C (4 + 1) 140 [.inr (.inr (some 184))] w o ∧ (fun o : cm_O => ∃ x w', o = (some (.inl x), w') ∧ sv_w sg w' ∧ hPs w' ∧ (∀ k i, k ≠ 184 → k ≠ 188 → k ≠ 199 → ¬ (k = 186 ∧ 120 ≤ i) → w'.1 k i = w.1 k i) ∧ (w'.1 184 2).toInt = 0) o := by
    refine wk_entry (by rw [xm_495561d5]; exact Nat.le_of_ble_eq_true rfl) ?_
    rw [show cm_ent 140 [.inr (.inr (some 184))] = [some (.inr (.inr (some 184))), none, none] from by unfold cm_ent; rw [xm_495561d5]; rfl]
    refine wk_aload_n xd_59ba84cf rfl ?_
    refine wk_iconst xd_e6a08295 ?_
    refine wk_putI xf_a97f0ddc (fun ci => wk_fitI ci) xd_1eaeb975 ?_
    have hG1_ : sv_w sg (cm_u1 w 184 0 (Int32.ofInt 0)) := sv_w_u1 hG (by rw [xg_59f145a5]; exact hb_mk (by rw [(show ((Int32.ofInt 0)).toInt = 0 from by decide)]; omega) (by rw [(show ((Int32.ofInt 0)).toInt = 0 from by decide)]; omega))
    refine wk_aload_n xd_c295cf88 rfl ?_
    refine wk_sipush xd_d0245217 ?_
    refine wk_call (kd := 0) (i := 232) xd_e9e171a2 rfl (wk_cal (as := [.inr (.inr (some 184)), .inl ((Int16.ofInt 200).toInt32)]) (t := []) xl_a46b7a99 rfl xn_8a0f2cb7 xc_11bee548 rfl rfl xv_8b88ab9c rfl) (cm_C_mono (by decide) (htk_ok (cm_u1 w 184 0 (Int32.ofInt 0)) ((Int16.ofInt 200).toInt32))) ?_
    refine wk_aload_n xd_6e7c6b07 rfl ?_
    refine wk_iconst xd_f874ba7e ?_
    refine wk_putI xf_92d6a76b (fun ci => wk_fitI ci) xd_7e1ab808 ?_
    have hG2_ : sv_w sg (cm_u1 (htk (cm_u1 w 184 0 (Int32.ofInt 0)) ((Int16.ofInt 200).toInt32)) 184 15 (Int32.ofInt 0)) := sv_w_u1 (htk_G (by decide) (by decide) hG1_) (by rw [xg_68f72906]; exact sv_in_top _)
    refine wk_aload_n xd_f5532040 rfl ?_
    refine wk_iconst xd_784f313e ?_
    refine wk_putI xf_e070cf1b (fun ci => wk_fitI ci) xd_62db6947 ?_
    have hG3_ : sv_w sg (cm_u1 (cm_u1 (htk (cm_u1 w 184 0 (Int32.ofInt 0)) ((Int16.ofInt 200).toInt32)) 184 15 (Int32.ofInt 0)) 184 39 (Int32.ofInt 0)) := sv_w_u1 hG2_ (by rw [xg_0d54e32a]; exact hb_mk (by rw [(show ((Int32.ofInt 0)).toInt = 0 from by decide)]; omega) (by rw [(show ((Int32.ofInt 0)).toInt = 0 from by decide)]; omega))
    refine wk_aload_n xd_3662c22f rfl ?_
    refine wk_iconst xd_8e918343 ?_
    refine wk_putI xf_4382bd1e (fun ci => wk_fitI ci) xd_f1a75eba ?_
    have hG4_ : sv_w sg (cm_u1 (cm_u1 (cm_u1 (htk (cm_u1 w 184 0 (Int32.ofInt 0)) ((Int16.ofInt 200).toInt32)) 184 15 (Int32.ofInt 0)) 184 39 (Int32.ofInt 0)) 184 40 (Int32.ofInt 0)) := sv_w_u1 hG3_ (by rw [xg_ff894e00]; exact sv_in_top _)
    refine wk_aload_n xd_ad4d8968 rfl ?_
    refine wk_iconst xd_0eaa0803 ?_
    refine wk_putI xf_155c50c6 (fun ci => wk_fitI ci) xd_a8334b31 ?_
    have hG5_ : sv_w sg (cm_u1 (cm_u1 (cm_u1 (cm_u1 (htk (cm_u1 w 184 0 (Int32.ofInt 0)) ((Int16.ofInt 200).toInt32)) 184 15 (Int32.ofInt 0)) 184 39 (Int32.ofInt 0)) 184 40 (Int32.ofInt 0)) 184 41 (Int32.ofInt 0)) := sv_w_u1 hG4_ (by rw [xg_f29d027f]; exact hb_mk (by rw [(show ((Int32.ofInt 0)).toInt = 0 from by decide)]; omega) (by rw [(show ((Int32.ofInt 0)).toInt = 0 from by decide)]; omega))
    refine wk_aload_n xd_b747a708 rfl ?_
    refine wk_iconst xd_28824027 ?_
    refine wk_putI xf_def9978e (fun ci => wk_fitI ci) xd_ec3f9195 ?_
    have hG6_ : sv_w sg (cm_u1 (cm_u1 (cm_u1 (cm_u1 (cm_u1 (htk (cm_u1 w 184 0 (Int32.ofInt 0)) ((Int16.ofInt 200).toInt32)) 184 15 (Int32.ofInt 0)) 184 39 (Int32.ofInt 0)) 184 40 (Int32.ofInt 0)) 184 41 (Int32.ofInt 0)) 184 42 (Int32.ofInt 1)) := sv_w_u1 hG5_ (by rw [xg_fb7c9e3d]; exact sv_in_top _)
    refine wk_aload_n xd_2c68ec4f rfl ?_
    refine wk_iconst xd_95d9e2d7 ?_
    refine wk_putI xf_90b1ea0f (fun _ => aw_fb (.inl (by decide))) xd_cf6bd77e ?_
    have hG7_ : sv_w sg (cm_u1 (cm_u1 (cm_u1 (cm_u1 (cm_u1 (cm_u1 (htk (cm_u1 w 184 0 (Int32.ofInt 0)) ((Int16.ofInt 200).toInt32)) 184 15 (Int32.ofInt 0)) 184 39 (Int32.ofInt 0)) 184 40 (Int32.ofInt 0)) 184 41 (Int32.ofInt 0)) 184 42 (Int32.ofInt 1)) 184 43 (Int32.ofInt 0)) := sv_w_u1 hG6_ (by rw [xg_03c1839c]; exact hb_mk (by rw [(show ((Int32.ofInt 0)).toInt = 0 from by decide)]; omega) (by rw [(show ((Int32.ofInt 0)).toInt = 0 from by decide)]; omega))
    refine wk_aload_n xd_865f907f rfl ?_
    obtain ⟨wc8_, hCc8_, hGc8_, hFc8_, hxc8_⟩ := xs_129_f2ad130c (w := (cm_u1 (cm_u1 (cm_u1 (cm_u1 (cm_u1 (cm_u1 (htk (cm_u1 w 184 0 (Int32.ofInt 0)) ((Int16.ofInt 200).toInt32)) 184 15 (Int32.ofInt 0)) 184 39 (Int32.ofInt 0)) 184 40 (Int32.ofInt 0)) 184 41 (Int32.ofInt 0)) 184 42 (Int32.ofInt 1)) 184 43 (Int32.ofInt 0))) hG7_
    refine wk_call (kd := 0) (i := 179) xd_4b3c5273 rfl (wk_cal (as := [.inr (.inr (some 184))]) (t := []) xl_2177e1df rfl xn_00af7311 xc_b2cf5bb1 rfl rfl xv_e7aa8f3d rfl) (cm_C_mono (by decide) hCc8_) ?_
    refine wk_iconst xd_15b22f49 ?_
    refine wk_istore_n xd_b50ee9a3 (by rw [xm_495561d5]; rfl) rfl ?_
    have hj : hJs wc8_ 0 0 0 0 0 := by
      have f : ∀ k i, k = 188 ∨ k = 199 ∨ (k = 184 ∧ 39 ≤ i) → wc8_.1 k i = (cm_u1 (cm_u1 (cm_u1 (cm_u1 (cm_u1 (cm_u1 (htk (cm_u1 w 184 0 (Int32.ofInt 0)) ((Int16.ofInt 200).toInt32)) 184 15 (Int32.ofInt 0)) 184 39 (Int32.ofInt 0)) 184 40 (Int32.ofInt 0)) 184 41 (Int32.ofInt 0)) 184 42 (Int32.ofInt 1)) 184 43 (Int32.ofInt 0)).1 k i := fun k i h => (hFc8_ k i (by omega)).1
      refine ⟨by rw [f 184 39 (by omega)]; show (Int32.ofInt 0).toInt = _; decide, by rw [f 184 41 (by omega)]; show (Int32.ofInt 0).toInt = _; decide, by rw [f 184 40 (by omega)]; show (Int32.ofInt 0).toInt = _; decide, by rw [f 184 43 (by omega)]; show (Int32.ofInt 0).toInt = _; decide, fun j hj => absurd hj (Nat.not_lt_zero j), ⟨fun _ => 0, rfl, fun i _ => Nat.zero_le i, fun i hi => absurd hi (Nat.not_lt_zero i), rfl⟩, rfl, by omega, by omega⟩
    have h2z : (wc8_.1 184 2).toInt = 0 := by
      rw [(hFc8_ 184 2 (by omega)).1]
      show (Int32.ofInt 0).toInt = 0
      decide
    have hfr : ∀ k i, k ≠ 184 → k ≠ 188 → k ≠ 199 → wc8_.1 k i = w.1 k i := fun k i x1 x2 x3 => by
      rw [(hFc8_ k i (by omega)).1]
      unfold htk
      rw [hs_u1_ne (by omega), hs_u1_ne (by omega), hs_u1_ne (by omega), hs_u1_ne (by omega), hs_u1_ne (by omega), hs_u1_ne (by omega), hs_u1_ne (by omega), hs_u1_ne (by omega), hs_u1_ne (by omega), hs_u1_ne (by omega), hs_u1_ne (by omega)]
    refine hse_l wc8_ _ (fun w2 x hF2 hG2 => ?_) (fun w2 c n H hJ2 hF2 hG2 => ?_) 10000 0 0 0 0 0 wc8_ (by omega) (by omega) hj (fun _ _ _ _ _ => rfl) hGc8_
    · exact ⟨x, w2, rfl, hG2, hPs_fr (fun i => (hF2 186 i (by omega) (by decide) (by decide)).trans (hfr 186 i (by decide) (by decide) (by decide))) hP, fun k i x1 x2 x3 x4 => (hF2 k i (by omega) x2 x3).trans (hfr k i x1 x2 x3), by rw [hF2 184 2 (by omega) (by decide) (by decide)]; exact h2z⟩
    · have k1 : (w2.1 184 39).toInt = ((c : Int) : Int) := hJ2.1
      have k8 := hJ2.2.2.2.2.2.2.2.1
      have k9 := hJ2.2.2.2.2.2.2.2.2
      refine wk_aload_n xd_fbf4e76a rfl ?_
      refine wk_getR xf_973724d5 xd_70d56593 ?_
      refine wk_bipush xd_3187d0d1 ?_
      refine wk_aload_n xd_16db77a5 rfl ?_
      refine wk_getI xf_92e1ef45 xd_093db450 ?_
      refine aw_iastore (i := 120) xf_31d67ad9 (show (((Int8.ofInt 120).toInt32)).toInt = 120 from by decide) (by omega) (by omega) xd_eb87c6c7 ?_
      have hG1_ : sv_w sg (cm_u1 w2 186 120 (w2.1 184 39)) := sv_w_u1 hG2 (by rw [xg_8f0e2d98]; exact hb_mk (by rw [(show ((w2.1 184 39)).toInt = ((c : Int) : Int) from k1)]; omega) (by rw [(show ((w2.1 184 39)).toInt = ((c : Int) : Int) from k1)]; omega))
      refine wk_iconst xd_b90bcd18 ?_
      refine wk_istore_n xd_0940896f (by rw [xm_495561d5]; rfl) rfl ?_
      refine hsc_l (cm_u1 w2 186 120 (w2.1 184 39)) c (by omega) k1 _ (fun x w3 hC hG3 => ?_) (3 * c) 0 _ (cm_u1 w2 186 120 (w2.1 184 39)) (by omega) (by decide) ⟨fun j hj => absurd hj (Nat.not_lt_zero j), fun _ _ _ => rfl, rfl⟩ hG1_
      have e120 : (w3.1 186 120).toInt = (c : Int) := by rw [hC.2.2, hs_u1_self]; exact k1
      have hfr3 : ∀ k i, ¬ (k = 186 ∧ 120 ≤ i) → w3.1 k i = w2.1 k i := fun k i h => (hC.2.1 k i (by omega)).trans (hs_u1_ne (by omega))
      refine ⟨x, w3, rfl, hG3, ⟨c, e120, by omega, ?_⟩, fun k i x1 x2 x3 x4 => (hfr3 k i x4).trans ((hF2 k i (by omega) x2 x3).trans (hfr k i x1 x2 x3)), by rw [hfr3 184 2 (by omega), hF2 184 2 (by omega) (by decide) (by decide)]; exact h2z⟩
      obtain ⟨ht, q0, q1, q2, -⟩ := hPq_eq (g := fun j => w3.1 186 (121 + j)) hJ2.2.2.2.2.2.1 (fun j hj => by
        show w2.1 188 j = w3.1 186 (121 + j)
        rw [hC.1 j hj, hs_u1_ne (by omega)])
      exact ⟨ht, q0, q1, q2⟩
  obtain ⟨o, hC, x, w', rfl, a⟩ := h
  exact ⟨x, w', hC, a⟩

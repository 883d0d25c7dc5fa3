set_option maxRecDepth 100000 in
theorem xd_5172be48 : decode (ia_code 237) 0 = .ok (.aload_n 0, 1) := fdd_d (by decide +kernel)
set_option maxRecDepth 100000 in
theorem xd_075834ce : decode (ia_code 237) 1 = .ok (.getfield 15, 3) := fdd_d (by decide +kernel)
set_option maxRecDepth 100000 in
theorem xf_fab5b2af : wk_gf 237 15 32 1 (18 + 3) = true := by decide +kernel
set_option maxRecDepth 100000 in
theorem xd_40bdca96 : decode (ia_code 237) 4 = .ok (.getfield 91, 3) := fdd_d (by decide +kernel)
set_option maxRecDepth 100000 in
theorem xf_c6922543 : wk_gf 237 91 18 3 0 = true := by decide +kernel
set_option maxRecDepth 100000 in
theorem xd_d45fad8d : decode (ia_code 237) 7 = .ok (.istore_n 1, 1) := fdd_d (by decide +kernel)
set_option maxRecDepth 100000 in
theorem xm_a09fa776 : ia_maxL 237 = 2 := by decide +kernel
set_option maxRecDepth 100000 in
theorem xd_36a807b3 : decode (ia_code 237) 8 = .ok (.iload_n 1, 1) := fdd_d (by decide +kernel)
set_option maxRecDepth 100000 in
theorem xd_95faa442 : decode (ia_code 237) 9 = .ok (.bipush 6, 2) := fdd_d (by decide +kernel)
set_option maxRecDepth 100000 in
theorem xd_32a9b464 : decode (ia_code 237) 11 = .ok (.if_icmp .lt 12, 3) := fdd_d (by decide +kernel)
set_option maxRecDepth 100000 in
theorem xd_dec5f642 : decode (ia_code 237) 23 = .ok (.aload_n 0, 1) := fdd_d (by decide +kernel)
set_option maxRecDepth 100000 in
theorem xd_e20bb955 : decode (ia_code 237) 24 = .ok (.getfield 9, 3) := fdd_d (by decide +kernel)
set_option maxRecDepth 100000 in
theorem xf_9b50af83 : wk_gf 237 9 32 0 (2 + 3) = true := by decide +kernel
set_option maxRecDepth 100000 in
theorem xl_33b3a6eb : ia_pl (ia_cls 237) 72 = some (1, 61, 0, 0, 751) := by decide +kernel
set_option maxRecDepth 100000 in
theorem xd_94f09167 : decode (ia_code 237) 27 = .ok (.invokevirtual 72, 3) := fdd_d (by decide +kernel)
set_option maxRecDepth 100000 in
theorem xd_2905aa58 : decode (ia_code 237) 30 = .ok (.aload_n 0, 1) := fdd_d (by decide +kernel)
set_option maxRecDepth 100000 in
theorem xd_57408a95 : decode (ia_code 237) 31 = .ok (.getfield 15, 3) := fdd_d (by decide +kernel)
set_option maxRecDepth 100000 in
theorem xd_d845fbbd : decode (ia_code 237) 34 = .ok (.getfield 94, 3) := fdd_d (by decide +kernel)
set_option maxRecDepth 100000 in
theorem xf_205d963c : wk_gf 237 94 18 7 (19 + 3) = true := by decide +kernel
set_option maxRecDepth 100000 in
theorem xd_38dfc82b : decode (ia_code 237) 37 = .ok (.iload_n 1, 1) := fdd_d (by decide +kernel)
set_option maxRecDepth 100000 in
theorem xd_29bce97e : decode (ia_code 237) 38 = .ok (.aload_n 0, 1) := fdd_d (by decide +kernel)
set_option maxRecDepth 100000 in
theorem xl_5a59776e : ia_pl (ia_cls 237) 98 = some (1, 240, 0, 0, 769) := by decide +kernel
set_option maxRecDepth 100000 in
theorem xd_5b995456 : decode (ia_code 237) 39 = .ok (.invokevirtual 98, 3) := fdd_d (by decide +kernel)
set_option maxRecDepth 100000 in
theorem xd_0f5331a3 : decode (ia_code 237) 42 = .ok (.lastore, 1) := fdd_d (by decide +kernel)
set_option maxRecDepth 100000 in
theorem xd_6ef8a412 : decode (ia_code 237) 43 = .ok (.aload_n 0, 1) := fdd_d (by decide +kernel)
set_option maxRecDepth 100000 in
theorem xd_d1b52b46 : decode (ia_code 237) 44 = .ok (.getfield 15, 3) := fdd_d (by decide +kernel)
set_option maxRecDepth 100000 in
theorem xd_960f2b8d : decode (ia_code 237) 47 = .ok (.getfield 102, 3) := fdd_d (by decide +kernel)
set_option maxRecDepth 100000 in
theorem xf_b24c8d45 : wk_gf 237 102 18 10 (22 + 3) = true := by decide +kernel
set_option maxRecDepth 100000 in
theorem xd_fe5b02d5 : decode (ia_code 237) 50 = .ok (.iload_n 1, 1) := fdd_d (by decide +kernel)
set_option maxRecDepth 100000 in
theorem xd_024b12dc : decode (ia_code 237) 51 = .ok (.aload_n 0, 1) := fdd_d (by decide +kernel)
set_option maxRecDepth 100000 in
theorem xd_9c6617ad : decode (ia_code 237) 52 = .ok (.getfield 9, 3) := fdd_d (by decide +kernel)
set_option maxRecDepth 100000 in
theorem xd_82117bea : decode (ia_code 237) 55 = .ok (.iconst 0, 1) := fdd_d (by decide +kernel)
set_option maxRecDepth 100000 in
theorem xd_5627ebe1 : decode (ia_code 237) 56 = .ok (.bipush 9, 2) := fdd_d (by decide +kernel)
set_option maxRecDepth 100000 in
theorem xl_328615fa : ia_pl (ia_cls 237) 75 = some (1, 189, 0, 0, 752) := by decide +kernel
set_option maxRecDepth 100000 in
theorem xd_83336079 : decode (ia_code 237) 58 = .ok (.invokevirtual 75, 3) := fdd_d (by decide +kernel)
set_option maxRecDepth 100000 in
theorem xd_2b4ad682 : decode (ia_code 237) 61 = .ok (.iastore, 1) := fdd_d (by decide +kernel)
set_option maxRecDepth 100000 in
theorem xf_0928f44f : wk_ar 22 50 6 = true := by decide +kernel
set_option maxRecDepth 100000 in
theorem xd_2cb082c9 : decode (ia_code 237) 62 = .ok (.aload_n 0, 1) := fdd_d (by decide +kernel)
set_option maxRecDepth 100000 in
theorem xd_0aaf9c81 : decode (ia_code 237) 63 = .ok (.getfield 15, 3) := fdd_d (by decide +kernel)
set_option maxRecDepth 100000 in
theorem xd_598a1d58 : decode (ia_code 237) 66 = .ok (.getfield 106, 3) := fdd_d (by decide +kernel)
set_option maxRecDepth 100000 in
theorem xf_e8203e10 : wk_gf 237 106 18 11 (23 + 3) = true := by decide +kernel
set_option maxRecDepth 100000 in
theorem xd_3d8f020f : decode (ia_code 237) 69 = .ok (.iload_n 1, 1) := fdd_d (by decide +kernel)
set_option maxRecDepth 100000 in
theorem xd_40033407 : decode (ia_code 237) 70 = .ok (.aload_n 0, 1) := fdd_d (by decide +kernel)
set_option maxRecDepth 100000 in
theorem xd_541e98d8 : decode (ia_code 237) 71 = .ok (.getfield 9, 3) := fdd_d (by decide +kernel)
set_option maxRecDepth 100000 in
theorem xd_78afccc3 : decode (ia_code 237) 74 = .ok (.iconst 0, 1) := fdd_d (by decide +kernel)
set_option maxRecDepth 100000 in
theorem xd_066b2129 : decode (ia_code 237) 75 = .ok (.sipush 199, 3) := fdd_d (by decide +kernel)
set_option maxRecDepth 100000 in
theorem xd_9efcb1db : decode (ia_code 237) 78 = .ok (.invokevirtual 75, 3) := fdd_d (by decide +kernel)
set_option maxRecDepth 100000 in
theorem xd_e0f8aa02 : decode (ia_code 237) 81 = .ok (.iastore, 1) := fdd_d (by decide +kernel)
set_option maxRecDepth 100000 in
theorem xf_d4be2dca : wk_ar 23 50 6 = true := by decide +kernel
set_option maxRecDepth 100000 in
theorem xd_4e80ec27 : decode (ia_code 237) 82 = .ok (.aload_n 0, 1) := fdd_d (by decide +kernel)
set_option maxRecDepth 100000 in
theorem xd_60586c8c : decode (ia_code 237) 83 = .ok (.getfield 15, 3) := fdd_d (by decide +kernel)
set_option maxRecDepth 100000 in
theorem xd_a50101c4 : decode (ia_code 237) 86 = .ok (.getfield 109, 3) := fdd_d (by decide +kernel)
set_option maxRecDepth 100000 in
theorem xf_b0c9b844 : wk_gf 237 109 18 12 (24 + 3) = true := by decide +kernel
set_option maxRecDepth 100000 in
theorem xd_5fbf6ce1 : decode (ia_code 237) 89 = .ok (.iload_n 1, 1) := fdd_d (by decide +kernel)
set_option maxRecDepth 100000 in
theorem xd_22335ae9 : decode (ia_code 237) 90 = .ok (.aload_n 0, 1) := fdd_d (by decide +kernel)
set_option maxRecDepth 100000 in
theorem xd_13ce67c9 : decode (ia_code 237) 91 = .ok (.getfield 9, 3) := fdd_d (by decide +kernel)
set_option maxRecDepth 100000 in
theorem xd_95dcfd9f : decode (ia_code 237) 94 = .ok (.iconst 0, 1) := fdd_d (by decide +kernel)
set_option maxRecDepth 100000 in
theorem xd_7254905f : decode (ia_code 237) 95 = .ok (.sipush 999, 3) := fdd_d (by decide +kernel)
set_option maxRecDepth 100000 in
theorem xd_cf9385b5 : decode (ia_code 237) 98 = .ok (.invokevirtual 75, 3) := fdd_d (by decide +kernel)
set_option maxRecDepth 100000 in
theorem xd_c4f0eda3 : decode (ia_code 237) 101 = .ok (.iastore, 1) := fdd_d (by decide +kernel)
set_option maxRecDepth 100000 in
theorem xf_a9cd2b92 : wk_ar 24 50 6 = true := by decide +kernel
set_option maxRecDepth 100000 in
theorem xd_112491b4 : decode (ia_code 237) 102 = .ok (.aload_n 0, 1) := fdd_d (by decide +kernel)
set_option maxRecDepth 100000 in
theorem xd_1480e770 : decode (ia_code 237) 103 = .ok (.getfield 15, 3) := fdd_d (by decide +kernel)
set_option maxRecDepth 100000 in
theorem xd_761bcafa : decode (ia_code 237) 106 = .ok (.iload_n 1, 1) := fdd_d (by decide +kernel)
set_option maxRecDepth 100000 in
theorem xd_ab420882 : decode (ia_code 237) 107 = .ok (.iconst 1, 1) := fdd_d (by decide +kernel)
set_option maxRecDepth 100000 in
theorem xd_e90cdb3d : decode (ia_code 237) 108 = .ok (.iadd, 1) := fdd_d (by decide +kernel)
set_option maxRecDepth 100000 in
theorem xd_08efda0e : decode (ia_code 237) 109 = .ok (.putfield 91, 3) := fdd_d (by decide +kernel)
set_option maxRecDepth 100000 in
theorem xf_b1593ba1 : wk_pf 237 91 18 3 0 = true := by decide +kernel
set_option maxRecDepth 100000 in
theorem xd_9001f493 : decode (ia_code 237) 112 = .ok (.aload_n 0, 1) := fdd_d (by decide +kernel)
set_option maxRecDepth 100000 in
theorem xd_a3accd45 : decode (ia_code 237) 113 = .ok (.getfield 9, 3) := fdd_d (by decide +kernel)
set_option maxRecDepth 100000 in
theorem xl_1d699613 : ia_pl (ia_cls 237) 82 = some (1, 184, 0, 0, 760) := by decide +kernel
set_option maxRecDepth 100000 in
theorem xd_4284eb5d : decode (ia_code 237) 116 = .ok (.invokevirtual 82, 3) := fdd_d (by decide +kernel)
set_option maxRecDepth 100000 in
theorem xd_51177394 : decode (ia_code 237) 119 = .ok (.ireturn, 1) := fdd_d (by decide +kernel)
set_option maxRecDepth 100000 in
theorem xr_23b726a5 : ia_ret 237 = some .boolean := by decide +kernel
set_option maxRecDepth 100000 in
theorem xd_f062c7c4 : decode (ia_code 237) 14 = .ok (.aload_n 0, 1) := fdd_d (by decide +kernel)
set_option maxRecDepth 100000 in
theorem xd_56c36a21 : decode (ia_code 237) 15 = .ok (.getfield 9, 3) := fdd_d (by decide +kernel)
set_option maxRecDepth 100000 in
theorem xd_8507ad79 : decode (ia_code 237) 18 = .ok (.iconst 4, 1) := fdd_d (by decide +kernel)
set_option maxRecDepth 100000 in
theorem xl_3a5724b5 : ia_pl (ia_cls 237) 69 = some (1, 63, 0, 0, 750) := by decide +kernel
set_option maxRecDepth 100000 in
theorem xd_8a601e91 : decode (ia_code 237) 19 = .ok (.invokevirtual 69, 3) := fdd_d (by decide +kernel)
set_option maxRecDepth 100000 in
theorem xd_abc834e0 : decode (ia_code 237) 22 = .ok (.ireturn, 1) := fdd_d (by decide +kernel)
set_option maxRecDepth 100000 in
theorem xd_dc98e8d2 : decode (ia_code 238) 0 = .ok (.aload_n 0, 1) := fdd_d (by decide +kernel)
set_option maxRecDepth 100000 in
theorem xd_b50a746b : decode (ia_code 238) 1 = .ok (.getfield 24, 3) := fdd_d (by decide +kernel)
set_option maxRecDepth 100000 in
theorem xf_3c182209 : wk_gf 238 24 32 2 0 = true := by decide +kernel
set_option maxRecDepth 100000 in
theorem xd_09e9f407 : decode (ia_code 238) 4 = .ok (.ifCond .eq 12, 3) := fdd_d (by decide +kernel)
set_option maxRecDepth 100000 in
theorem xd_0da38421 : decode (ia_code 238) 16 = .ok (.aload_n 0, 1) := fdd_d (by decide +kernel)
set_option maxRecDepth 100000 in
theorem xd_1c976cd3 : decode (ia_code 238) 17 = .ok (.iconst 1, 1) := fdd_d (by decide +kernel)
set_option maxRecDepth 100000 in
theorem xd_9515f97b : decode (ia_code 238) 18 = .ok (.putfield 24, 3) := fdd_d (by decide +kernel)
set_option maxRecDepth 100000 in
theorem xf_87793c75 : wk_pf 238 24 32 2 1 = true := by decide +kernel
set_option maxRecDepth 100000 in
theorem xd_2304b5a7 : decode (ia_code 238) 21 = .ok (.aload_n 0, 1) := fdd_d (by decide +kernel)
set_option maxRecDepth 100000 in
theorem xd_5b90f0be : decode (ia_code 238) 22 = .ok (.getfield 9, 3) := fdd_d (by decide +kernel)
set_option maxRecDepth 100000 in
theorem xf_ed50740b : wk_gf 238 9 32 0 (2 + 3) = true := by decide +kernel
set_option maxRecDepth 100000 in
theorem xl_6c3b7a54 : ia_pl (ia_cls 238) 72 = some (1, 61, 0, 0, 751) := by decide +kernel
set_option maxRecDepth 100000 in
theorem xd_ecdd6f04 : decode (ia_code 238) 25 = .ok (.invokevirtual 72, 3) := fdd_d (by decide +kernel)
set_option maxRecDepth 100000 in
theorem xd_b8ce1c55 : decode (ia_code 238) 28 = .ok (.aload_n 0, 1) := fdd_d (by decide +kernel)
set_option maxRecDepth 100000 in
theorem xd_c0ec73aa : decode (ia_code 238) 29 = .ok (.getfield 15, 3) := fdd_d (by decide +kernel)
set_option maxRecDepth 100000 in
theorem xf_18eeddb0 : wk_gf 238 15 32 1 (18 + 3) = true := by decide +kernel
set_option maxRecDepth 100000 in
theorem xd_d4c4e9bd : decode (ia_code 238) 32 = .ok (.aload_n 0, 1) := fdd_d (by decide +kernel)
set_option maxRecDepth 100000 in
theorem xd_7f3e0597 : decode (ia_code 238) 33 = .ok (.getfield 9, 3) := fdd_d (by decide +kernel)
set_option maxRecDepth 100000 in
theorem xd_e629dbfa : decode (ia_code 238) 36 = .ok (.iconst 1, 1) := fdd_d (by decide +kernel)
set_option maxRecDepth 100000 in
theorem xd_4f672310 : decode (ia_code 238) 37 = .ok (.bipush 20, 2) := fdd_d (by decide +kernel)
set_option maxRecDepth 100000 in
theorem xl_6907333b : ia_pl (ia_cls 238) 75 = some (1, 189, 0, 0, 752) := by decide +kernel
set_option maxRecDepth 100000 in
theorem xd_99efc9e4 : decode (ia_code 238) 39 = .ok (.invokevirtual 75, 3) := fdd_d (by decide +kernel)
set_option maxRecDepth 100000 in
theorem xd_4cac29da : decode (ia_code 238) 42 = .ok (.putfield 79, 3) := fdd_d (by decide +kernel)
set_option maxRecDepth 100000 in
theorem xf_431a1ee6 : wk_pf 238 79 18 0 0 = true := by decide +kernel
set_option maxRecDepth 100000 in
theorem xd_93654664 : decode (ia_code 238) 45 = .ok (.aload_n 0, 1) := fdd_d (by decide +kernel)
set_option maxRecDepth 100000 in
theorem xd_594d0247 : decode (ia_code 238) 46 = .ok (.getfield 9, 3) := fdd_d (by decide +kernel)
set_option maxRecDepth 100000 in
theorem xl_46e8b0d2 : ia_pl (ia_cls 238) 82 = some (1, 184, 0, 0, 760) := by decide +kernel
set_option maxRecDepth 100000 in
theorem xd_f22e3d16 : decode (ia_code 238) 49 = .ok (.invokevirtual 82, 3) := fdd_d (by decide +kernel)
set_option maxRecDepth 100000 in
theorem xd_2c4a65bf : decode (ia_code 238) 52 = .ok (.ireturn, 1) := fdd_d (by decide +kernel)
set_option maxRecDepth 100000 in
theorem xr_e5351570 : ia_ret 238 = some .boolean := by decide +kernel
set_option maxRecDepth 100000 in
theorem xd_aa21707c : decode (ia_code 238) 7 = .ok (.aload_n 0, 1) := fdd_d (by decide +kernel)
set_option maxRecDepth 100000 in
theorem xd_f1137cc6 : decode (ia_code 238) 8 = .ok (.getfield 9, 3) := fdd_d (by decide +kernel)
set_option maxRecDepth 100000 in
theorem xd_14a66533 : decode (ia_code 238) 11 = .ok (.iconst 3, 1) := fdd_d (by decide +kernel)
set_option maxRecDepth 100000 in
theorem xl_65dff80a : ia_pl (ia_cls 238) 69 = some (1, 63, 0, 0, 750) := by decide +kernel
set_option maxRecDepth 100000 in
theorem xd_f65b1dfb : decode (ia_code 238) 12 = .ok (.invokevirtual 69, 3) := fdd_d (by decide +kernel)
set_option maxRecDepth 100000 in
theorem xd_190c70e7 : decode (ia_code 238) 15 = .ok (.ireturn, 1) := fdd_d (by decide +kernel)
set_option maxRecDepth 100000 in
theorem xm_bbc6611d : ia_maxL 238 = 1 := by decide +kernel
set_option maxRecDepth 100000 in
theorem xd_3b854e45 : decode (ia_code 239) 0 = .ok (.aload_n 0, 1) := fdd_d (by decide +kernel)
set_option maxRecDepth 100000 in
theorem xd_714f6477 : decode (ia_code 239) 1 = .ok (.getfield 28, 3) := fdd_d (by decide +kernel)
set_option maxRecDepth 100000 in
theorem xf_797d5632 : wk_gf 239 28 32 3 0 = true := by decide +kernel
set_option maxRecDepth 100000 in
theorem xd_3589170f : decode (ia_code 239) 4 = .ok (.ifCond .eq 12, 3) := fdd_d (by decide +kernel)
set_option maxRecDepth 100000 in
theorem xd_632f9f60 : decode (ia_code 239) 16 = .ok (.aload_n 0, 1) := fdd_d (by decide +kernel)
set_option maxRecDepth 100000 in
theorem xd_fb8aca44 : decode (ia_code 239) 17 = .ok (.iconst 1, 1) := fdd_d (by decide +kernel)
set_option maxRecDepth 100000 in
theorem xd_33e2cd5e : decode (ia_code 239) 18 = .ok (.putfield 28, 3) := fdd_d (by decide +kernel)
set_option maxRecDepth 100000 in
theorem xf_c21c484e : wk_pf 239 28 32 3 1 = true := by decide +kernel
set_option maxRecDepth 100000 in
theorem xd_4d88aee6 : decode (ia_code 239) 21 = .ok (.aload_n 0, 1) := fdd_d (by decide +kernel)
set_option maxRecDepth 100000 in
theorem xd_5a250da3 : decode (ia_code 239) 22 = .ok (.getfield 9, 3) := fdd_d (by decide +kernel)
set_option maxRecDepth 100000 in
theorem xf_76239edf : wk_gf 239 9 32 0 (2 + 3) = true := by decide +kernel
set_option maxRecDepth 100000 in
theorem xl_62dc9285 : ia_pl (ia_cls 239) 72 = some (1, 61, 0, 0, 751) := by decide +kernel
set_option maxRecDepth 100000 in
theorem xd_c85f3e32 : decode (ia_code 239) 25 = .ok (.invokevirtual 72, 3) := fdd_d (by decide +kernel)
set_option maxRecDepth 100000 in
theorem xd_d6420714 : decode (ia_code 239) 28 = .ok (.aload_n 0, 1) := fdd_d (by decide +kernel)
set_option maxRecDepth 100000 in
theorem xd_a3ebaa8e : decode (ia_code 239) 29 = .ok (.getfield 15, 3) := fdd_d (by decide +kernel)
set_option maxRecDepth 100000 in
theorem xf_bd654dbe : wk_gf 239 15 32 1 (18 + 3) = true := by decide +kernel
set_option maxRecDepth 100000 in
theorem xd_ba48f2fc : decode (ia_code 239) 32 = .ok (.aload_n 0, 1) := fdd_d (by decide +kernel)
set_option maxRecDepth 100000 in
theorem xd_7e8bf88a : decode (ia_code 239) 33 = .ok (.getfield 9, 3) := fdd_d (by decide +kernel)
set_option maxRecDepth 100000 in
theorem xd_3c5454dd : decode (ia_code 239) 36 = .ok (.iconst 0, 1) := fdd_d (by decide +kernel)
set_option maxRecDepth 100000 in
theorem xd_bb615052 : decode (ia_code 239) 37 = .ok (.sipush 399, 3) := fdd_d (by decide +kernel)
set_option maxRecDepth 100000 in
theorem xl_98dd3691 : ia_pl (ia_cls 239) 75 = some (1, 189, 0, 0, 752) := by decide +kernel
set_option maxRecDepth 100000 in
theorem xd_91ccffec : decode (ia_code 239) 40 = .ok (.invokevirtual 75, 3) := fdd_d (by decide +kernel)
set_option maxRecDepth 100000 in
theorem xd_be863f24 : decode (ia_code 239) 43 = .ok (.putfield 85, 3) := fdd_d (by decide +kernel)
set_option maxRecDepth 100000 in
theorem xf_88950de7 : wk_pf 239 85 18 1 0 = true := by decide +kernel
set_option maxRecDepth 100000 in
theorem xd_8b0c6418 : decode (ia_code 239) 46 = .ok (.aload_n 0, 1) := fdd_d (by decide +kernel)
set_option maxRecDepth 100000 in
theorem xd_dbe5882e : decode (ia_code 239) 47 = .ok (.getfield 15, 3) := fdd_d (by decide +kernel)
set_option maxRecDepth 100000 in
theorem xd_e7e37345 : decode (ia_code 239) 50 = .ok (.aload_n 0, 1) := fdd_d (by decide +kernel)
set_option maxRecDepth 100000 in
theorem xd_cc6b5823 : decode (ia_code 239) 51 = .ok (.getfield 9, 3) := fdd_d (by decide +kernel)
set_option maxRecDepth 100000 in
theorem xd_c2aec697 : decode (ia_code 239) 54 = .ok (.iconst 1, 1) := fdd_d (by decide +kernel)
set_option maxRecDepth 100000 in
theorem xd_85e9c8f6 : decode (ia_code 239) 55 = .ok (.sipush 200, 3) := fdd_d (by decide +kernel)
set_option maxRecDepth 100000 in
theorem xd_a75d093c : decode (ia_code 239) 58 = .ok (.invokevirtual 75, 3) := fdd_d (by decide +kernel)
set_option maxRecDepth 100000 in
theorem xd_c33a96a7 : decode (ia_code 239) 61 = .ok (.putfield 88, 3) := fdd_d (by decide +kernel)
set_option maxRecDepth 100000 in
theorem xf_9facc4e8 : wk_pf 239 88 18 2 0 = true := by decide +kernel
set_option maxRecDepth 100000 in
theorem xd_bfa17bfe : decode (ia_code 239) 64 = .ok (.aload_n 0, 1) := fdd_d (by decide +kernel)
set_option maxRecDepth 100000 in
theorem xd_9080702f : decode (ia_code 239) 65 = .ok (.getfield 9, 3) := fdd_d (by decide +kernel)
set_option maxRecDepth 100000 in
theorem xl_b732b578 : ia_pl (ia_cls 239) 82 = some (1, 184, 0, 0, 760) := by decide +kernel
set_option maxRecDepth 100000 in
theorem xd_f7035e8a : decode (ia_code 239) 68 = .ok (.invokevirtual 82, 3) := fdd_d (by decide +kernel)
set_option maxRecDepth 100000 in
theorem xd_dc8fbed2 : decode (ia_code 239) 71 = .ok (.ireturn, 1) := fdd_d (by decide +kernel)
set_option maxRecDepth 100000 in
theorem xr_6293de33 : ia_ret 239 = some .boolean := by decide +kernel
set_option maxRecDepth 100000 in
theorem xd_4d3cd6eb : decode (ia_code 239) 7 = .ok (.aload_n 0, 1) := fdd_d (by decide +kernel)
set_option maxRecDepth 100000 in
theorem xd_9f9f6787 : decode (ia_code 239) 8 = .ok (.getfield 9, 3) := fdd_d (by decide +kernel)
set_option maxRecDepth 100000 in
theorem xd_f3bbc3a4 : decode (ia_code 239) 11 = .ok (.iconst 3, 1) := fdd_d (by decide +kernel)
set_option maxRecDepth 100000 in
theorem xl_6b3810db : ia_pl (ia_cls 239) 69 = some (1, 63, 0, 0, 750) := by decide +kernel
set_option maxRecDepth 100000 in
theorem xd_d2d94ccd : decode (ia_code 239) 12 = .ok (.invokevirtual 69, 3) := fdd_d (by decide +kernel)
set_option maxRecDepth 100000 in
theorem xd_bc87e0e9 : decode (ia_code 239) 15 = .ok (.ireturn, 1) := fdd_d (by decide +kernel)
set_option maxRecDepth 100000 in
theorem xm_86a648ad : ia_maxL 239 = 1 := by decide +kernel
set_option maxRecDepth 100000 in
theorem xd_7be62896 : decode (ia_code 233) 0 = .ok (.aload_n 0, 1) := fdd_d (by decide +kernel)
set_option maxRecDepth 100000 in
theorem xd_018fc0ba : decode (ia_code 233) 1 = .ok (.getfield 15, 3) := fdd_d (by decide +kernel)
set_option maxRecDepth 100000 in
theorem xf_0108f854 : wk_gf 233 15 32 1 (18 + 3) = true := by decide +kernel
set_option maxRecDepth 100000 in
theorem xd_fc5b6396 : decode (ia_code 233) 4 = .ok (.getfield 140, 3) := fdd_d (by decide +kernel)
set_option maxRecDepth 100000 in
theorem xf_945d4af7 : wk_gf 233 140 18 6 0 = true := by decide +kernel
set_option maxRecDepth 100000 in
theorem xd_b51ec6c8 : decode (ia_code 233) 7 = .ok (.istore_n 1, 1) := fdd_d (by decide +kernel)
set_option maxRecDepth 100000 in
theorem xm_bc7ca483 : ia_maxL 233 = 4 := by decide +kernel
set_option maxRecDepth 100000 in
theorem xd_1c3c916d : decode (ia_code 233) 8 = .ok (.iload_n 1, 1) := fdd_d (by decide +kernel)
set_option maxRecDepth 100000 in
theorem xd_66347220 : decode (ia_code 233) 9 = .ok (.bipush 10, 2) := fdd_d (by decide +kernel)
set_option maxRecDepth 100000 in
theorem xd_4323ae4e : decode (ia_code 233) 11 = .ok (.if_icmp .lt 12, 3) := fdd_d (by decide +kernel)
set_option maxRecDepth 100000 in
theorem xd_bf849d07 : decode (ia_code 233) 23 = .ok (.aload_n 0, 1) := fdd_d (by decide +kernel)
set_option maxRecDepth 100000 in
theorem xd_e4dc4d21 : decode (ia_code 233) 24 = .ok (.getfield 9, 3) := fdd_d (by decide +kernel)
set_option maxRecDepth 100000 in
theorem xf_9b0c0e10 : wk_gf 233 9 32 0 (2 + 3) = true := by decide +kernel
set_option maxRecDepth 100000 in
theorem xl_082c05af : ia_pl (ia_cls 233) 72 = some (1, 61, 0, 0, 751) := by decide +kernel
set_option maxRecDepth 100000 in
theorem xd_06f9d5bf : decode (ia_code 233) 27 = .ok (.invokevirtual 72, 3) := fdd_d (by decide +kernel)
set_option maxRecDepth 100000 in
theorem xd_4844c11d : decode (ia_code 233) 30 = .ok (.aload_n 0, 1) := fdd_d (by decide +kernel)
set_option maxRecDepth 100000 in
theorem xd_a9742657 : decode (ia_code 233) 31 = .ok (.getfield 9, 3) := fdd_d (by decide +kernel)
set_option maxRecDepth 100000 in
theorem xd_4818608e : decode (ia_code 233) 34 = .ok (.aload_n 0, 1) := fdd_d (by decide +kernel)
set_option maxRecDepth 100000 in
theorem xd_fb93a2bf : decode (ia_code 233) 35 = .ok (.getfield 15, 3) := fdd_d (by decide +kernel)
set_option maxRecDepth 100000 in
theorem xd_b7854e8e : decode (ia_code 233) 38 = .ok (.iconst 0, 1) := fdd_d (by decide +kernel)
set_option maxRecDepth 100000 in
theorem xl_1f6129d4 : ia_pl (ia_cls 233) 143 = some (1, 188, 0, 0, 808) := by decide +kernel
set_option maxRecDepth 100000 in
theorem xd_d87f9fd3 : decode (ia_code 233) 39 = .ok (.invokevirtual 143, 3) := fdd_d (by decide +kernel)
set_option maxRecDepth 100000 in
theorem xd_ae944389 : decode (ia_code 233) 42 = .ok (.istore_n 2, 1) := fdd_d (by decide +kernel)
set_option maxRecDepth 100000 in
theorem xd_0fb9cf57 : decode (ia_code 233) 43 = .ok (.aload_n 0, 1) := fdd_d (by decide +kernel)
set_option maxRecDepth 100000 in
theorem xd_8f072187 : decode (ia_code 233) 44 = .ok (.getfield 9, 3) := fdd_d (by decide +kernel)
set_option maxRecDepth 100000 in
theorem xd_0fe56ec4 : decode (ia_code 233) 47 = .ok (.aload_n 0, 1) := fdd_d (by decide +kernel)
set_option maxRecDepth 100000 in
theorem xd_516d90db : decode (ia_code 233) 48 = .ok (.getfield 15, 3) := fdd_d (by decide +kernel)
set_option maxRecDepth 100000 in
theorem xd_f4247e34 : decode (ia_code 233) 51 = .ok (.iconst 0, 1) := fdd_d (by decide +kernel)
set_option maxRecDepth 100000 in
theorem xl_40530700 : ia_pl (ia_cls 233) 133 = some (1, 186, 0, 0, 798) := by decide +kernel
set_option maxRecDepth 100000 in
theorem xd_e822c7af : decode (ia_code 233) 52 = .ok (.invokevirtual 133, 3) := fdd_d (by decide +kernel)
set_option maxRecDepth 100000 in
theorem xd_0767cd40 : decode (ia_code 233) 55 = .ok (.istore_n 3, 1) := fdd_d (by decide +kernel)
set_option maxRecDepth 100000 in
theorem xd_3570613a : decode (ia_code 233) 56 = .ok (.iload_n 2, 1) := fdd_d (by decide +kernel)
set_option maxRecDepth 100000 in
theorem xd_20084dfe : decode (ia_code 233) 57 = .ok (.iconst (-1), 1) := fdd_d (by decide +kernel)
set_option maxRecDepth 100000 in
theorem xd_c8a0cfeb : decode (ia_code 233) 58 = .ok (.if_icmp .eq 25, 3) := fdd_d (by decide +kernel)
set_option maxRecDepth 100000 in
theorem xd_26b7790c : decode (ia_code 233) 61 = .ok (.iload_n 3, 1) := fdd_d (by decide +kernel)
set_option maxRecDepth 100000 in
theorem xd_8c697af3 : decode (ia_code 233) 62 = .ok (.iconst (-1), 1) := fdd_d (by decide +kernel)
set_option maxRecDepth 100000 in
theorem xd_aa39c438 : decode (ia_code 233) 63 = .ok (.if_icmp .eq 20, 3) := fdd_d (by decide +kernel)
set_option maxRecDepth 100000 in
theorem xd_500ee1a2 : decode (ia_code 233) 66 = .ok (.iload_n 3, 1) := fdd_d (by decide +kernel)
set_option maxRecDepth 100000 in
theorem xd_f61d22c6 : decode (ia_code 233) 67 = .ok (.iload_n 2, 1) := fdd_d (by decide +kernel)
set_option maxRecDepth 100000 in
theorem xd_eb3cd629 : decode (ia_code 233) 68 = .ok (.if_icmp .eq 15, 3) := fdd_d (by decide +kernel)
set_option maxRecDepth 100000 in
theorem xd_b4b26db6 : decode (ia_code 233) 83 = .ok (.aload_n 0, 1) := fdd_d (by decide +kernel)
set_option maxRecDepth 100000 in
theorem xd_58b1f8cb : decode (ia_code 233) 84 = .ok (.getfield 9, 3) := fdd_d (by decide +kernel)
set_option maxRecDepth 100000 in
theorem xd_5ae35605 : decode (ia_code 233) 87 = .ok (.iconst 3, 1) := fdd_d (by decide +kernel)
set_option maxRecDepth 100000 in
theorem xl_01c887f1 : ia_pl (ia_cls 233) 69 = some (1, 63, 0, 0, 750) := by decide +kernel
set_option maxRecDepth 100000 in
theorem xd_5dd11718 : decode (ia_code 233) 88 = .ok (.invokevirtual 69, 3) := fdd_d (by decide +kernel)
set_option maxRecDepth 100000 in
theorem xd_ab5077b8 : decode (ia_code 233) 91 = .ok (.ireturn, 1) := fdd_d (by decide +kernel)
set_option maxRecDepth 100000 in
theorem xr_50bf016a : ia_ret 233 = some .boolean := by decide +kernel
set_option maxRecDepth 100000 in
theorem xd_ba31b596 : decode (ia_code 233) 71 = .ok (.aload_n 0, 1) := fdd_d (by decide +kernel)
set_option maxRecDepth 100000 in
theorem xd_1f57c8c9 : decode (ia_code 233) 72 = .ok (.getfield 15, 3) := fdd_d (by decide +kernel)
set_option maxRecDepth 100000 in
theorem xd_9aae9408 : decode (ia_code 233) 75 = .ok (.iload_n 2, 1) := fdd_d (by decide +kernel)
set_option maxRecDepth 100000 in
theorem xd_d12b8485 : decode (ia_code 233) 76 = .ok (.iload_n 3, 1) := fdd_d (by decide +kernel)
set_option maxRecDepth 100000 in
theorem xl_e4e9fa26 : ia_pl (ia_cls 233) 146 = some (1, 229, 0, 0, 813) := by decide +kernel
set_option maxRecDepth 100000 in
theorem xn_df4908a0 : ia_na 229 = 3 := by decide +kernel
set_option maxRecDepth 100000 in
theorem xc_b6caf77f : ia_mc 229 = 0 ∧ ia_ms 229 = 0 := ⟨by decide +kernel, by decide +kernel⟩
set_option maxRecDepth 100000 in
theorem xv_3297bd5c : cm_rcv 229 [.inr (.inr (some 18))] = true := by decide +kernel
set_option maxRecDepth 100000 in
theorem xd_307a3ee7 : decode (ia_code 233) 77 = .ok (.invokevirtual 146, 3) := fdd_d (by decide +kernel)
set_option maxRecDepth 100000 in
theorem xd_a4842efc : decode (ia_code 233) 80 = .ok (.ifCond .eq 12, 3) := fdd_d (by decide +kernel)
set_option maxRecDepth 100000 in
theorem xd_aee4e245 : decode (ia_code 233) 92 = .ok (.aload_n 0, 1) := fdd_d (by decide +kernel)
set_option maxRecDepth 100000 in
theorem xd_cc225fb2 : decode (ia_code 233) 93 = .ok (.getfield 9, 3) := fdd_d (by decide +kernel)
set_option maxRecDepth 100000 in
theorem xd_5e8e494c : decode (ia_code 233) 96 = .ok (.invokevirtual 72, 3) := fdd_d (by decide +kernel)
set_option maxRecDepth 100000 in
theorem xd_d8b8985e : decode (ia_code 233) 99 = .ok (.aload_n 0, 1) := fdd_d (by decide +kernel)
set_option maxRecDepth 100000 in
theorem xd_d0eedd03 : decode (ia_code 233) 100 = .ok (.getfield 15, 3) := fdd_d (by decide +kernel)
set_option maxRecDepth 100000 in
theorem xd_bab507b7 : decode (ia_code 233) 103 = .ok (.getfield 150, 3) := fdd_d (by decide +kernel)
set_option maxRecDepth 100000 in
theorem xf_4bd31fbf : wk_gf 233 150 18 16 (28 + 3) = true := by decide +kernel
set_option maxRecDepth 100000 in
theorem xd_70cc3e8e : decode (ia_code 233) 106 = .ok (.iload_n 1, 1) := fdd_d (by decide +kernel)
set_option maxRecDepth 100000 in
theorem xd_ac1fae8a : decode (ia_code 233) 107 = .ok (.iload_n 2, 1) := fdd_d (by decide +kernel)
set_option maxRecDepth 100000 in
theorem xd_544cf195 : decode (ia_code 233) 108 = .ok (.iastore, 1) := fdd_d (by decide +kernel)
set_option maxRecDepth 100000 in
theorem xd_61af1fdb : decode (ia_code 233) 109 = .ok (.aload_n 0, 1) := fdd_d (by decide +kernel)
set_option maxRecDepth 100000 in
theorem xd_37f37b94 : decode (ia_code 233) 110 = .ok (.getfield 15, 3) := fdd_d (by decide +kernel)
set_option maxRecDepth 100000 in
theorem xd_93996626 : decode (ia_code 233) 113 = .ok (.getfield 153, 3) := fdd_d (by decide +kernel)
set_option maxRecDepth 100000 in
theorem xf_67063444 : wk_gf 233 153 18 17 (29 + 3) = true := by decide +kernel
set_option maxRecDepth 100000 in
theorem xd_f1e95ba9 : decode (ia_code 233) 116 = .ok (.iload_n 1, 1) := fdd_d (by decide +kernel)
set_option maxRecDepth 100000 in
theorem xd_105ae21d : decode (ia_code 233) 117 = .ok (.iload_n 3, 1) := fdd_d (by decide +kernel)
set_option maxRecDepth 100000 in
theorem xd_43649555 : decode (ia_code 233) 118 = .ok (.iastore, 1) := fdd_d (by decide +kernel)
set_option maxRecDepth 100000 in
theorem xd_e08a7afc : decode (ia_code 233) 119 = .ok (.aload_n 0, 1) := fdd_d (by decide +kernel)
set_option maxRecDepth 100000 in
theorem xd_c5a4966c : decode (ia_code 233) 120 = .ok (.getfield 15, 3) := fdd_d (by decide +kernel)
set_option maxRecDepth 100000 in
theorem xd_e8edc495 : decode (ia_code 233) 123 = .ok (.getfield 156, 3) := fdd_d (by decide +kernel)
set_option maxRecDepth 100000 in
theorem xf_2031a748 : wk_gf 233 156 18 18 (30 + 3) = true := by decide +kernel
set_option maxRecDepth 100000 in
theorem xd_a9f7f281 : decode (ia_code 233) 126 = .ok (.iload_n 1, 1) := fdd_d (by decide +kernel)
set_option maxRecDepth 100000 in
theorem xd_55e7e288 : decode (ia_code 233) 127 = .ok (.aload_n 0, 1) := fdd_d (by decide +kernel)
set_option maxRecDepth 100000 in
theorem xd_4b3c8c51 : decode (ia_code 233) 128 = .ok (.getfield 9, 3) := fdd_d (by decide +kernel)
set_option maxRecDepth 100000 in
theorem xd_ce17007a : decode (ia_code 233) 131 = .ok (.iconst 1, 1) := fdd_d (by decide +kernel)
set_option maxRecDepth 100000 in
theorem xd_95c873d7 : decode (ia_code 233) 132 = .ok (.sipush 250, 3) := fdd_d (by decide +kernel)
set_option maxRecDepth 100000 in
theorem xl_430c0fd0 : ia_pl (ia_cls 233) 75 = some (1, 189, 0, 0, 752) := by decide +kernel
set_option maxRecDepth 100000 in
theorem xd_d0062280 : decode (ia_code 233) 135 = .ok (.invokevirtual 75, 3) := fdd_d (by decide +kernel)
set_option maxRecDepth 100000 in
theorem xd_6d345cd5 : decode (ia_code 233) 138 = .ok (.iastore, 1) := fdd_d (by decide +kernel)
set_option maxRecDepth 100000 in
theorem xf_57cb9340 : wk_ar 30 50 10 = true := by decide +kernel
set_option maxRecDepth 100000 in
theorem xd_39b1b6f3 : decode (ia_code 233) 139 = .ok (.aload_n 0, 1) := fdd_d (by decide +kernel)
set_option maxRecDepth 100000 in
theorem xd_fa7a4bdd : decode (ia_code 233) 140 = .ok (.getfield 15, 3) := fdd_d (by decide +kernel)
set_option maxRecDepth 100000 in
theorem xd_d6e40e83 : decode (ia_code 233) 143 = .ok (.getfield 159, 3) := fdd_d (by decide +kernel)
set_option maxRecDepth 100000 in
theorem xf_0c016e06 : wk_gf 233 159 18 19 (31 + 3) = true := by decide +kernel
set_option maxRecDepth 100000 in
theorem xd_19caa0d1 : decode (ia_code 233) 146 = .ok (.iload_n 1, 1) := fdd_d (by decide +kernel)
set_option maxRecDepth 100000 in
theorem xd_e5dab0d8 : decode (ia_code 233) 147 = .ok (.aload_n 0, 1) := fdd_d (by decide +kernel)
set_option maxRecDepth 100000 in
theorem xd_20e7e0f7 : decode (ia_code 233) 148 = .ok (.getfield 9, 3) := fdd_d (by decide +kernel)
set_option maxRecDepth 100000 in
theorem xd_1ebd5bb0 : decode (ia_code 233) 151 = .ok (.iconst 0, 1) := fdd_d (by decide +kernel)
set_option maxRecDepth 100000 in
theorem xd_b529a7e6 : decode (ia_code 233) 152 = .ok (.sipush 199, 3) := fdd_d (by decide +kernel)
set_option maxRecDepth 100000 in
theorem xd_f6565066 : decode (ia_code 233) 155 = .ok (.invokevirtual 75, 3) := fdd_d (by decide +kernel)
set_option maxRecDepth 100000 in
theorem xd_1fc50655 : decode (ia_code 233) 158 = .ok (.iastore, 1) := fdd_d (by decide +kernel)
set_option maxRecDepth 100000 in
theorem xf_cac47236 : wk_ar 31 50 10 = true := by decide +kernel
set_option maxRecDepth 100000 in
theorem xd_898ce4a3 : decode (ia_code 233) 159 = .ok (.aload_n 0, 1) := fdd_d (by decide +kernel)
set_option maxRecDepth 100000 in
theorem xd_ef3000b2 : decode (ia_code 233) 160 = .ok (.getfield 15, 3) := fdd_d (by decide +kernel)
set_option maxRecDepth 100000 in
theorem xd_5bde2799 : decode (ia_code 233) 163 = .ok (.iload_n 1, 1) := fdd_d (by decide +kernel)
set_option maxRecDepth 100000 in
theorem xd_1eb1bcfd : decode (ia_code 233) 164 = .ok (.iconst 1, 1) := fdd_d (by decide +kernel)
set_option maxRecDepth 100000 in
theorem xd_8727be56 : decode (ia_code 233) 165 = .ok (.iadd, 1) := fdd_d (by decide +kernel)
set_option maxRecDepth 100000 in
theorem xd_5f85e038 : decode (ia_code 233) 166 = .ok (.putfield 140, 3) := fdd_d (by decide +kernel)
set_option maxRecDepth 100000 in
theorem xf_da2e02bd : wk_pf 233 140 18 6 0 = true := by decide +kernel
set_option maxRecDepth 100000 in
theorem xd_d1924d8b : decode (ia_code 233) 169 = .ok (.aload_n 0, 1) := fdd_d (by decide +kernel)
set_option maxRecDepth 100000 in
theorem xd_c7076a1a : decode (ia_code 233) 170 = .ok (.getfield 9, 3) := fdd_d (by decide +kernel)
set_option maxRecDepth 100000 in
theorem xl_6ce38c39 : ia_pl (ia_cls 233) 82 = some (1, 184, 0, 0, 760) := by decide +kernel
set_option maxRecDepth 100000 in
theorem xd_21ada531 : decode (ia_code 233) 173 = .ok (.invokevirtual 82, 3) := fdd_d (by decide +kernel)
set_option maxRecDepth 100000 in
theorem xd_456730e4 : decode (ia_code 233) 176 = .ok (.ireturn, 1) := fdd_d (by decide +kernel)
set_option maxRecDepth 100000 in
theorem xd_9123ac81 : decode (ia_code 233) 14 = .ok (.aload_n 0, 1) := fdd_d (by decide +kernel)
set_option maxRecDepth 100000 in
theorem xd_50149e55 : decode (ia_code 233) 15 = .ok (.getfield 9, 3) := fdd_d (by decide +kernel)
set_option maxRecDepth 100000 in
theorem xd_af933ba7 : decode (ia_code 233) 18 = .ok (.iconst 4, 1) := fdd_d (by decide +kernel)
set_option maxRecDepth 100000 in
theorem xd_18695a49 : decode (ia_code 233) 19 = .ok (.invokevirtual 69, 3) := fdd_d (by decide +kernel)
set_option maxRecDepth 100000 in
theorem xd_50757e1b : decode (ia_code 233) 22 = .ok (.ireturn, 1) := fdd_d (by decide +kernel)
set_option maxRecDepth 100000 in
theorem xd_1d8bb77d : decode (ia_code 236) 47 = .ok (.iload_n 3, 1) := fdd_d (by decide +kernel)
set_option maxRecDepth 100000 in
theorem xd_63ab4cf3 : decode (ia_code 236) 48 = .ok (.bipush 6, 2) := fdd_d (by decide +kernel)
set_option maxRecDepth 100000 in
theorem xd_0944dcb2 : decode (ia_code 236) 50 = .ok (.if_icmp .gt 77, 3) := fdd_d (by decide +kernel)
set_option maxRecDepth 100000 in
theorem xd_a1925a79 : decode (ia_code 236) 53 = .ok (.iload_n 2, 1) := fdd_d (by decide +kernel)
set_option maxRecDepth 100000 in
theorem xd_485033bd : decode (ia_code 236) 54 = .ok (.ifCond .eq 15, 3) := fdd_d (by decide +kernel)
set_option maxRecDepth 100000 in
theorem xd_3460e393 : decode (ia_code 236) 69 = .ok (.aload_n 0, 1) := fdd_d (by decide +kernel)
set_option maxRecDepth 100000 in
theorem xd_d48e00e2 : decode (ia_code 236) 70 = .ok (.getfield 9, 3) := fdd_d (by decide +kernel)
set_option maxRecDepth 100000 in
theorem xf_00234557 : wk_gf 236 9 32 0 (2 + 3) = true := by decide +kernel
set_option maxRecDepth 100000 in
theorem xd_586a167b : decode (ia_code 236) 73 = .ok (.aload_n 0, 1) := fdd_d (by decide +kernel)
set_option maxRecDepth 100000 in
theorem xd_40e51f9a : decode (ia_code 236) 74 = .ok (.getfield 15, 3) := fdd_d (by decide +kernel)
set_option maxRecDepth 100000 in
theorem xf_5f3e22a1 : wk_gf 236 15 32 1 (18 + 3) = true := by decide +kernel
set_option maxRecDepth 100000 in
theorem xd_a6cac714 : decode (ia_code 236) 77 = .ok (.iconst 0, 1) := fdd_d (by decide +kernel)
set_option maxRecDepth 100000 in
theorem xl_ad6bd43f : ia_pl (ia_cls 236) 133 = some (1, 186, 0, 0, 798) := by decide +kernel
set_option maxRecDepth 100000 in
theorem xd_fd1319fa : decode (ia_code 236) 78 = .ok (.invokevirtual 133, 3) := fdd_d (by decide +kernel)
set_option maxRecDepth 100000 in
theorem xd_17568e6c : decode (ia_code 236) 81 = .ok (.istore 4, 2) := fdd_d (by decide +kernel)
set_option maxRecDepth 100000 in
theorem xm_039b1b65 : ia_maxL 236 = 5 := by decide +kernel
set_option maxRecDepth 100000 in
theorem xd_47f97655 : decode (ia_code 236) 83 = .ok (.iload 4, 2) := fdd_d (by decide +kernel)
set_option maxRecDepth 100000 in
theorem xd_1ca7cda3 : decode (ia_code 236) 85 = .ok (.iconst (-1), 1) := fdd_d (by decide +kernel)
set_option maxRecDepth 100000 in
theorem xd_eee2e624 : decode (ia_code 236) 86 = .ok (.if_icmp .eq 12, 3) := fdd_d (by decide +kernel)
set_option maxRecDepth 100000 in
theorem xd_76930d70 : decode (ia_code 236) 89 = .ok (.iload_n 2, 1) := fdd_d (by decide +kernel)
set_option maxRecDepth 100000 in
theorem xd_2bcf9076 : decode (ia_code 236) 90 = .ok (.iload 4, 2) := fdd_d (by decide +kernel)
set_option maxRecDepth 100000 in
theorem xd_df7da5c2 : decode (ia_code 236) 92 = .ok (.ishr, 1) := fdd_d (by decide +kernel)
set_option maxRecDepth 100000 in
theorem xd_2a784cf8 : decode (ia_code 236) 93 = .ok (.iconst 1, 1) := fdd_d (by decide +kernel)
set_option maxRecDepth 100000 in
theorem xd_18b9159f : decode (ia_code 236) 94 = .ok (.iand, 1) := fdd_d (by decide +kernel)
set_option maxRecDepth 100000 in
theorem xd_9f84e870 : decode (ia_code 236) 95 = .ok (.ifCond .eq 12, 3) := fdd_d (by decide +kernel)
set_option maxRecDepth 100000 in
theorem xd_ab7da7e3 : decode (ia_code 236) 107 = .ok (.iload_n 2, 1) := fdd_d (by decide +kernel)
set_option maxRecDepth 100000 in
theorem xd_19540b83 : decode (ia_code 236) 108 = .ok (.iconst 1, 1) := fdd_d (by decide +kernel)
set_option maxRecDepth 100000 in
theorem xd_e0510f66 : decode (ia_code 236) 109 = .ok (.iload 4, 2) := fdd_d (by decide +kernel)
set_option maxRecDepth 100000 in
theorem xd_ea6daf01 : decode (ia_code 236) 111 = .ok (.ishl, 1) := fdd_d (by decide +kernel)
set_option maxRecDepth 100000 in
theorem xd_68e744d3 : decode (ia_code 236) 112 = .ok (.ior, 1) := fdd_d (by decide +kernel)
set_option maxRecDepth 100000 in
theorem xd_5105243f : decode (ia_code 236) 113 = .ok (.istore_n 2, 1) := fdd_d (by decide +kernel)
set_option maxRecDepth 100000 in
theorem xd_7c7e7bf4 : decode (ia_code 236) 114 = .ok (.aload_n 0, 1) := fdd_d (by decide +kernel)
set_option maxRecDepth 100000 in
theorem xd_70964631 : decode (ia_code 236) 115 = .ok (.getfield 9, 3) := fdd_d (by decide +kernel)
set_option maxRecDepth 100000 in
theorem xl_3d544e3a : ia_pl (ia_cls 236) 72 = some (1, 61, 0, 0, 751) := by decide +kernel
set_option maxRecDepth 100000 in
theorem xd_cd781a71 : decode (ia_code 236) 118 = .ok (.invokevirtual 72, 3) := fdd_d (by decide +kernel)
set_option maxRecDepth 100000 in
theorem xd_ceb89317 : decode (ia_code 236) 121 = .ok (.iinc 3 1, 3) := fdd_d (by decide +kernel)
set_option maxRecDepth 100000 in
theorem xd_41079124 : decode (ia_code 236) 124 = .ok (.goto (-77), 3) := fdd_d (by decide +kernel)
set_option maxRecDepth 100000 in
theorem xd_4c06028e : decode (ia_code 236) 98 = .ok (.aload_n 0, 1) := fdd_d (by decide +kernel)
set_option maxRecDepth 100000 in
theorem xd_c076a66a : decode (ia_code 236) 99 = .ok (.getfield 9, 3) := fdd_d (by decide +kernel)
set_option maxRecDepth 100000 in
theorem xd_f487b763 : decode (ia_code 236) 102 = .ok (.iconst 3, 1) := fdd_d (by decide +kernel)
set_option maxRecDepth 100000 in
theorem xl_34b0cc64 : ia_pl (ia_cls 236) 69 = some (1, 63, 0, 0, 750) := by decide +kernel
set_option maxRecDepth 100000 in
theorem xd_03c42b0d : decode (ia_code 236) 103 = .ok (.invokevirtual 69, 3) := fdd_d (by decide +kernel)
set_option maxRecDepth 100000 in
theorem xd_ed373eed : decode (ia_code 236) 106 = .ok (.ireturn, 1) := fdd_d (by decide +kernel)
set_option maxRecDepth 100000 in
theorem xr_a411ede6 : ia_ret 236 = some .boolean := by decide +kernel
set_option maxRecDepth 100000 in
theorem xd_810d7be7 : decode (ia_code 236) 57 = .ok (.aload_n 0, 1) := fdd_d (by decide +kernel)
set_option maxRecDepth 100000 in
theorem xd_96e51a01 : decode (ia_code 236) 58 = .ok (.getfield 9, 3) := fdd_d (by decide +kernel)
set_option maxRecDepth 100000 in
theorem xd_24407396 : decode (ia_code 236) 61 = .ok (.bipush 59, 2) := fdd_d (by decide +kernel)
set_option maxRecDepth 100000 in
theorem xl_97d8402f : ia_pl (ia_cls 236) 130 = some (1, 60, 0, 0, 794) := by decide +kernel
set_option maxRecDepth 100000 in
theorem xd_2f7e197b : decode (ia_code 236) 63 = .ok (.invokevirtual 130, 3) := fdd_d (by decide +kernel)
set_option maxRecDepth 100000 in
theorem xd_05b7356c : decode (ia_code 236) 66 = .ok (.ifCond .ne 61, 3) := fdd_d (by decide +kernel)
set_option maxRecDepth 100000 in
theorem xd_b66f18df : decode (ia_code 236) 0 = .ok (.aload_n 0, 1) := fdd_d (by decide +kernel)
set_option maxRecDepth 100000 in
theorem xd_06edc9d3 : decode (ia_code 236) 1 = .ok (.getfield 15, 3) := fdd_d (by decide +kernel)
set_option maxRecDepth 100000 in
theorem xd_ebeb9dbe : decode (ia_code 236) 4 = .ok (.getfield 124, 3) := fdd_d (by decide +kernel)
set_option maxRecDepth 100000 in
theorem xf_980d70c9 : wk_gf 236 124 18 5 0 = true := by decide +kernel
set_option maxRecDepth 100000 in
theorem xd_bad3b6cc : decode (ia_code 236) 7 = .ok (.istore_n 1, 1) := fdd_d (by decide +kernel)
set_option maxRecDepth 100000 in
theorem xd_d1b5a124 : decode (ia_code 236) 8 = .ok (.iload_n 1, 1) := fdd_d (by decide +kernel)
set_option maxRecDepth 100000 in
theorem xd_3071344c : decode (ia_code 236) 9 = .ok (.bipush 6, 2) := fdd_d (by decide +kernel)
set_option maxRecDepth 100000 in
theorem xd_c373b1ce : decode (ia_code 236) 11 = .ok (.if_icmp .lt 12, 3) := fdd_d (by decide +kernel)
set_option maxRecDepth 100000 in
theorem xd_b049ed03 : decode (ia_code 236) 23 = .ok (.aload_n 0, 1) := fdd_d (by decide +kernel)
set_option maxRecDepth 100000 in
theorem xd_e3be4448 : decode (ia_code 236) 24 = .ok (.getfield 9, 3) := fdd_d (by decide +kernel)
set_option maxRecDepth 100000 in
theorem xd_b072c051 : decode (ia_code 236) 27 = .ok (.invokevirtual 72, 3) := fdd_d (by decide +kernel)
set_option maxRecDepth 100000 in
theorem xd_4789b119 : decode (ia_code 236) 30 = .ok (.aload_n 0, 1) := fdd_d (by decide +kernel)
set_option maxRecDepth 100000 in
theorem xd_344753b1 : decode (ia_code 236) 31 = .ok (.getfield 15, 3) := fdd_d (by decide +kernel)
set_option maxRecDepth 100000 in
theorem xd_0fc54d80 : decode (ia_code 236) 34 = .ok (.getfield 127, 3) := fdd_d (by decide +kernel)
set_option maxRecDepth 100000 in
theorem xf_9a7f913c : wk_gf 236 127 18 9 (21 + 3) = true := by decide +kernel
set_option maxRecDepth 100000 in
theorem xd_5653d36a : decode (ia_code 236) 37 = .ok (.iload_n 1, 1) := fdd_d (by decide +kernel)
set_option maxRecDepth 100000 in
theorem xd_4730f23f : decode (ia_code 236) 38 = .ok (.aload_n 0, 1) := fdd_d (by decide +kernel)
set_option maxRecDepth 100000 in
theorem xl_ab8372c4 : ia_pl (ia_cls 236) 98 = some (1, 240, 0, 0, 769) := by decide +kernel
set_option maxRecDepth 100000 in
theorem xd_7f1b0560 : decode (ia_code 236) 39 = .ok (.invokevirtual 98, 3) := fdd_d (by decide +kernel)
set_option maxRecDepth 100000 in
theorem xd_aad8a1ad : decode (ia_code 236) 42 = .ok (.lastore, 1) := fdd_d (by decide +kernel)
set_option maxRecDepth 100000 in
theorem xd_8c8e6d29 : decode (ia_code 236) 43 = .ok (.iconst 0, 1) := fdd_d (by decide +kernel)
set_option maxRecDepth 100000 in
theorem xd_19cb18b0 : decode (ia_code 236) 44 = .ok (.istore_n 2, 1) := fdd_d (by decide +kernel)
set_option maxRecDepth 100000 in
theorem xd_fe7f37a9 : decode (ia_code 236) 45 = .ok (.iconst 0, 1) := fdd_d (by decide +kernel)
set_option maxRecDepth 100000 in
theorem xd_fd90fd0f : decode (ia_code 236) 46 = .ok (.istore_n 3, 1) := fdd_d (by decide +kernel)
set_option maxRecDepth 100000 in
theorem xd_5285ebe1 : decode (ia_code 236) 127 = .ok (.aload_n 0, 1) := fdd_d (by decide +kernel)
set_option maxRecDepth 100000 in
theorem xd_244c6af3 : decode (ia_code 236) 128 = .ok (.getfield 15, 3) := fdd_d (by decide +kernel)
set_option maxRecDepth 100000 in
theorem xd_4d6a1583 : decode (ia_code 236) 131 = .ok (.getfield 137, 3) := fdd_d (by decide +kernel)
set_option maxRecDepth 100000 in
theorem xf_f6702bf4 : wk_gf 236 137 18 15 (27 + 3) = true := by decide +kernel
set_option maxRecDepth 100000 in
theorem xd_c2264d26 : decode (ia_code 236) 134 = .ok (.iload_n 1, 1) := fdd_d (by decide +kernel)
set_option maxRecDepth 100000 in
theorem xd_1ef5dd22 : decode (ia_code 236) 135 = .ok (.iload_n 2, 1) := fdd_d (by decide +kernel)
set_option maxRecDepth 100000 in
theorem xd_7372602c : decode (ia_code 236) 136 = .ok (.iastore, 1) := fdd_d (by decide +kernel)
set_option maxRecDepth 100000 in
theorem xf_1407475c : wk_ar 27 50 6 = true := by decide +kernel
set_option maxRecDepth 100000 in
theorem xd_d3a08ec6 : decode (ia_code 236) 137 = .ok (.aload_n 0, 1) := fdd_d (by decide +kernel)
set_option maxRecDepth 100000 in
theorem xd_c351cc64 : decode (ia_code 236) 138 = .ok (.getfield 15, 3) := fdd_d (by decide +kernel)
set_option maxRecDepth 100000 in
theorem xd_68113116 : decode (ia_code 236) 141 = .ok (.iload_n 1, 1) := fdd_d (by decide +kernel)
set_option maxRecDepth 100000 in
theorem xd_8e1b4590 : decode (ia_code 236) 142 = .ok (.iconst 1, 1) := fdd_d (by decide +kernel)
set_option maxRecDepth 100000 in
theorem xd_66c04f65 : decode (ia_code 236) 143 = .ok (.iadd, 1) := fdd_d (by decide +kernel)
set_option maxRecDepth 100000 in
theorem xd_8176939d : decode (ia_code 236) 144 = .ok (.putfield 124, 3) := fdd_d (by decide +kernel)
set_option maxRecDepth 100000 in
theorem xf_d67e3883 : wk_pf 236 124 18 5 0 = true := by decide +kernel
set_option maxRecDepth 100000 in
theorem xd_c592b250 : decode (ia_code 236) 147 = .ok (.iconst 1, 1) := fdd_d (by decide +kernel)
set_option maxRecDepth 100000 in
theorem xd_6259a15d : decode (ia_code 236) 148 = .ok (.ireturn, 1) := fdd_d (by decide +kernel)
set_option maxRecDepth 100000 in
theorem xd_9eeedc85 : decode (ia_code 236) 14 = .ok (.aload_n 0, 1) := fdd_d (by decide +kernel)
set_option maxRecDepth 100000 in
theorem xd_5776973c : decode (ia_code 236) 15 = .ok (.getfield 9, 3) := fdd_d (by decide +kernel)
set_option maxRecDepth 100000 in
theorem xd_621a0bee : decode (ia_code 236) 18 = .ok (.iconst 4, 1) := fdd_d (by decide +kernel)
set_option maxRecDepth 100000 in
theorem xd_aee24fa7 : decode (ia_code 236) 19 = .ok (.invokevirtual 69, 3) := fdd_d (by decide +kernel)
set_option maxRecDepth 100000 in
theorem xd_0e43a4ee : decode (ia_code 236) 22 = .ok (.ireturn, 1) := fdd_d (by decide +kernel)
/-! ## the class's lines of a valley (wip/p4/gen9vl.py) -/
/-- what a line leaves: a fault, or what was read -/
def cs_P (T : Nat → Int) (n m : Nat) (r : ps_R) (x : Int32) (w : cm_W) : Prop := match r with
  | .inl e => x.toInt = 0 ∧ cs_B w e.1 e.2
  | .inr s => x.toInt = 1 ∧ ∃ f g, cs_M w T n m s.2.2.2.2 f g s.2.2.1 s.2.2.2.1 ∧ ps_Q id f g s.1 s.2.1
theorem cs_P_e {T : Nat → Int} {n m k q : Nat} {r : ps_R} {x : Int32} {w : cm_W} (hr : r = .inl (k, q)) (hx : x.toInt = 0) (hB : cs_B w k q) : cs_P T n m r x w := by
  rw [hr]
  exact ⟨hx, hB⟩
theorem cs_P_n {T : Nat → Int} {n m p : Nat} {h : Nat → Int} {nm : Nat → Nat} {a b : Int} {f : Nat → Int} {g : Nat → Int64} {r : ps_R} {x : Int32} {w : cm_W} (hr : r = .inr (h, nm, a, b, p)) (hx : x.toInt = 1) (hM : cs_M w T n m p f g a b) (hQ : ps_Q id f g h nm) : cs_P T n m r x w := by
  rw [hr]
  exact ⟨hx, f, g, hM, hQ⟩
theorem cl_pers {w : cm_W} {T : Nat → Int} {n m p : Nat} {f : Nat → Int} {g : Nat → Int64} {a0 b0 : Int} {h : Nat → Int} {nm : Nat → Nat} (hM : cs_M w T n m p f g a0 b0) (hQ : ps_Q id f g h nm) (hs : 1 ≤ (tx_tk T n m p).1 ∧ (tx_tk T n m p).1 ≤ 3)  : ∃ x w', cm_C 5 237 [.inr (.inr (some 32))] w (some (.inl x), w') ∧ cs_V w w' ∧ cs_P T n m (ps_pers T n m h nm a0 b0 p) x w' := by
  have hbd := hQ.2.2
  unfold ps_bd at hbd
  have hcn := vl_cnt (cs_R hM hQ)
  have h : ∃ o, cm_C (4 + 1) 237 [.inr (.inr (some 32))] w o ∧ (fun o : cm_O => ∃ x w', o = (some (.inl x), w') ∧ cs_V w w' ∧ cs_P T n m (ps_pers T n m h nm a0 b0 p) x w') o := by
    refine wk_entry (by rw [xm_a09fa776]; exact Nat.le_of_ble_eq_true rfl) ?_
    rw [show cm_ent 237 [.inr (.inr (some 32))] = [some (.inr (.inr (some 32))), none] from by unfold cm_ent; rw [xm_a09fa776]; rfl]
    refine wk_aload_n xd_5172be48 rfl ?_
    refine wk_getR xf_fab5b2af xd_075834ce ?_
    refine wk_getI xf_c6922543 xd_40bdca96 ?_
    refine wk_istore_n xd_d45fad8d (by rw [xm_a09fa776]; rfl) rfl ?_
    refine wk_iload_n xd_36a807b3 rfl ?_
    refine wk_bipush xd_95faa442 ?_
    refine wk_icmp xd_32a9b464 (t := 23) rfl (fun h11_0 => ?_) (fun h11_0 => ?_)
    · have h11_0 := aw_lt_t (a := (((h 0).toNat : Int) : Int)) (b := (6 : Int)) (show ((w.1 18 3)).toInt = (((h 0).toNat : Int) : Int) from hcn.1) (show (((Int8.ofInt 6).toInt32)).toInt = 6 from by decide) h11_0
      refine wk_aload_n xd_dec5f642 rfl ?_
      refine wk_getR xf_9b50af83 xd_e20bb955 ?_
      obtain ⟨wn2_, hCn2_, hVn2_, hMn2_⟩ := cs_next hM hs
      have hVn2_a := cs_V_tr (cs_V_rf w) hVn2_
      refine wk_call (kd := 0) (i := 72) xd_94f09167 rfl (wk_cal (as := [.inr (.inr (some 2))]) (t := []) xl_33b3a6eb rfl xn_568f4fa7 xc_1d38a579 rfl rfl xv_65cfb41b rfl) (cm_C_mono (by omega) hCn2_) ?_
      refine wk_aload_n xd_2905aa58 rfl ?_
      refine wk_getR xf_fab5b2af xd_57408a95 ?_
      refine wk_getR xf_205d963c xd_d845fbbd ?_
      refine wk_iload_n xd_38dfc82b rfl ?_
      refine wk_aload_n xd_29bce97e rfl ?_
      obtain ⟨xf3_, wf3_, hCf3_, hVf3_, hRf3_⟩ := cs_fresh hMn2_ hQ
      have hVf3_a := cs_V_tr hVn2_a hVf3_
      refine wk_call (kd := 0) (i := 98) xd_5b995456 rfl (wk_cal (as := [.inr (.inr (some 32))]) (t := [.inl (w.1 18 3), .inr (.inr (some 19))]) xl_5a59776e rfl xn_ea0ee8e0 xc_46748db1 rfl rfl xv_98e22893 rfl) (cm_C_mono (by omega) hCf3_) ?_
      rcases hRf3_ with ⟨c, q, ef, hc, rfl, hMf3_⟩ | ⟨kf, qf, ef, hBf3_, hFf3_⟩
      · skip
        refine aw_lastore (i := ((h 0).toNat)) xf_6fe648f8 (show ((w.1 18 3)).toInt = (((h 0).toNat : Int) : Int) from hcn.1) (by omega) (by omega) xd_0f5331a3 ?_
        have hV4_ := cs_V_u2 (c := 19) (i := ((h 0).toNat)) (x := (Int64.ofNat c)) hVf3_a (by omega) (by omega)
        have hM5_ := cs_M_u2 (x := (Int64.ofNat c)) hMf3_ (by omega) (by omega) (vl_s1 18 (i := ((h 0).toNat)) (by omega))
        rw [Nat.zero_add] at hM5_
        refine wk_aload_n xd_6ef8a412 rfl ?_
        refine wk_getR xf_fab5b2af xd_d1b52b46 ?_
        refine wk_getR xf_b24c8d45 xd_960f2b8d ?_
        refine wk_iload_n xd_fe5b02d5 rfl ?_
        refine wk_aload_n xd_024b12dc rfl ?_
        refine wk_getR xf_9b50af83 xd_9c6617ad ?_
        refine wk_iconst xd_82117bea ?_
        refine wk_bipush xd_5627ebe1 ?_
        obtain ⟨xt6_, wt6_, hCt6_, hVt6_, hRt6_⟩ := cs_num (a := (Int32.ofInt 0)) (b := ((Int8.ofInt 9).toInt32)) (lo := 0) (hi := 9) hM5_ (by decide) (by decide)
        have hVt6_a := cs_V_tr hV4_ hVt6_
        refine wk_call (kd := 0) (i := 75) xd_83336079 rfl (wk_cal (as := [.inr (.inr (some 2)), .inl (Int32.ofInt 0), .inl ((Int8.ofInt 9).toInt32)]) (t := [.inl (w.1 18 3), .inr (.inr (some 22))]) xl_328615fa rfl xn_4f3a315b xc_18628866 rfl rfl xv_017ac5ff rfl) (cm_C_mono (by omega) hCt6_) ?_
        rcases hRt6_ with ⟨et6_, hxt6_, hMt6_⟩ | ⟨et6_, hxt6_, hBt6_⟩
        · skip
          refine aw_iastore (i := ((h 0).toNat)) xf_0928f44f (show ((w.1 18 3)).toInt = (((h 0).toNat : Int) : Int) from hcn.1) (by omega) (by omega) xd_2b4ad682 ?_
          have hV7_ := cs_V_u1 (c := 22) (i := ((h 0).toNat)) (x := xt6_) hVt6_a (by omega) (by omega)
          have hM8_ := cs_M_u1 hMt6_ (by omega) (by omega) (show (xt6_).toInt = (tx_tk T n m q).2.2.2.1 from hxt6_) (vl_r4 18 (i := ((h 0).toNat)) (by omega))
          refine wk_aload_n xd_2cb082c9 rfl ?_
          refine wk_getR xf_fab5b2af xd_0aaf9c81 ?_
          refine wk_getR xf_e8203e10 xd_598a1d58 ?_
          refine wk_iload_n xd_3d8f020f rfl ?_
          refine wk_aload_n xd_40033407 rfl ?_
          refine wk_getR xf_9b50af83 xd_541e98d8 ?_
          refine wk_iconst xd_78afccc3 ?_
          refine wk_sipush xd_066b2129 ?_
          obtain ⟨xt9_, wt9_, hCt9_, hVt9_, hRt9_⟩ := cs_num (a := (Int32.ofInt 0)) (b := ((Int16.ofInt 199).toInt32)) (lo := 0) (hi := 199) hM8_ (by decide) (by decide)
          have hVt9_a := cs_V_tr hV7_ hVt9_
          refine wk_call (kd := 0) (i := 75) xd_9efcb1db rfl (wk_cal (as := [.inr (.inr (some 2)), .inl (Int32.ofInt 0), .inl ((Int16.ofInt 199).toInt32)]) (t := [.inl (w.1 18 3), .inr (.inr (some 23))]) xl_328615fa rfl xn_4f3a315b xc_18628866 rfl rfl xv_017ac5ff rfl) (cm_C_mono (by omega) hCt9_) ?_
          rcases hRt9_ with ⟨et9_, hxt9_, hMt9_⟩ | ⟨et9_, hxt9_, hBt9_⟩
          · skip
            refine aw_iastore (i := ((h 0).toNat)) xf_d4be2dca (show ((w.1 18 3)).toInt = (((h 0).toNat : Int) : Int) from hcn.1) (by omega) (by omega) xd_e0f8aa02 ?_
            have hV10_ := cs_V_u1 (c := 23) (i := ((h 0).toNat)) (x := xt9_) hVt9_a (by omega) (by omega)
            have hM11_ := cs_M_u1 hMt9_ (by omega) (by omega) (show (xt9_).toInt = (tx_tk T n m (tx_tk T n m q).2.2.1).2.2.2.1 from hxt9_) (vl_r5 18 (i := ((h 0).toNat)) (by omega))
            refine wk_aload_n xd_4e80ec27 rfl ?_
            refine wk_getR xf_fab5b2af xd_60586c8c ?_
            refine wk_getR xf_b0c9b844 xd_a50101c4 ?_
            refine wk_iload_n xd_5fbf6ce1 rfl ?_
            refine wk_aload_n xd_22335ae9 rfl ?_
            refine wk_getR xf_9b50af83 xd_13ce67c9 ?_
            refine wk_iconst xd_95dcfd9f ?_
            refine wk_sipush xd_7254905f ?_
            obtain ⟨xt12_, wt12_, hCt12_, hVt12_, hRt12_⟩ := cs_num (a := (Int32.ofInt 0)) (b := ((Int16.ofInt 999).toInt32)) (lo := 0) (hi := 999) hM11_ (by decide) (by decide)
            have hVt12_a := cs_V_tr hV10_ hVt12_
            refine wk_call (kd := 0) (i := 75) xd_cf9385b5 rfl (wk_cal (as := [.inr (.inr (some 2)), .inl (Int32.ofInt 0), .inl ((Int16.ofInt 999).toInt32)]) (t := [.inl (w.1 18 3), .inr (.inr (some 24))]) xl_328615fa rfl xn_4f3a315b xc_18628866 rfl rfl xv_017ac5ff rfl) (cm_C_mono (by omega) hCt12_) ?_
            rcases hRt12_ with ⟨et12_, hxt12_, hMt12_⟩ | ⟨et12_, hxt12_, hBt12_⟩
            · skip
              refine aw_iastore (i := ((h 0).toNat)) xf_a9cd2b92 (show ((w.1 18 3)).toInt = (((h 0).toNat : Int) : Int) from hcn.1) (by omega) (by omega) xd_c4f0eda3 ?_
              have hV13_ := cs_V_u1 (c := 24) (i := ((h 0).toNat)) (x := xt12_) hVt12_a (by omega) (by omega)
              have hM14_ := cs_M_u1 hMt12_ (by omega) (by omega) (show (xt12_).toInt = (tx_tk T n m (tx_tk T n m (tx_tk T n m q).2.2.1).2.2.1).2.2.2.1 from hxt12_) (vl_r6 18 (i := ((h 0).toNat)) (by omega))
              refine wk_aload_n xd_112491b4 rfl ?_
              refine wk_getR xf_fab5b2af xd_1480e770 ?_
              refine wk_iload_n xd_761bcafa rfl ?_
              refine wk_iconst xd_ab420882 ?_
              refine aw_iadd (a := (((h 0).toNat : Int) : Int)) (b := (1 : Int)) (e := (((h 0).toNat : Int) + 1 : Int)) xd_e90cdb3d (show ((w.1 18 3)).toInt = (((h 0).toNat : Int) : Int) from hcn.1) (show ((Int32.ofInt 1)).toInt = 1 from by decide) (by omega) (by omega) (by omega) (fun v15_ p15_ => ?_)
              refine wk_putI xf_b1593ba1 (fun ci => wk_fitI ci) xd_08efda0e ?_
              have hV16_ := cs_V_u1 (c := 18) (i := 3) (x := v15_) hV13_ (by omega) (by omega)
              have hM17_ := cs_M_u1 hM14_ (by omega) (by omega) (show (v15_).toInt = (h 0 + 1) from (by have e9 := p15_; omega)) (vl_q3 18)
              refine wk_aload_n xd_9001f493 rfl ?_
              refine wk_getR xf_9b50af83 xd_a3accd45 ?_
              obtain ⟨xg18_, hCg18_, eg18_⟩ := cs_good hM17_
              refine wk_call (kd := 0) (i := 82) xd_4284eb5d rfl (wk_cal (as := [.inr (.inr (some 2))]) (t := []) xl_1d699613 rfl xn_59a494c6 xc_7b6444b6 rfl rfl xv_433dc8e2 rfl) (cm_C_mono (by omega) hCg18_) ?_
              exact wk_ireturn xd_51177394 xr_23b726a5 (aw_bit (by have := eg18_; omega) (by have := eg18_; omega)) ⟨_, _, rfl, hV16_, cs_P_n ((ps_pers_n (by omega) ef).trans (congrArg (ps_end _ _ _ _ _) ((ps_nums_ok et6_).trans ((ps_nums_ok et9_).trans (ps_nums_ok et12_))))) eg18_ hM17_ (ps_Q_pers hc hQ (by omega))⟩
            · skip
              refine aw_iastore (i := ((h 0).toNat)) xf_a9cd2b92 (show ((w.1 18 3)).toInt = (((h 0).toNat : Int) : Int) from hcn.1) (by omega) (by omega) xd_c4f0eda3 ?_
              have hV19_ := cs_V_u1 (c := 24) (i := ((h 0).toNat)) (x := xt12_) hVt12_a (by omega) (by omega)
              have hB20_ := cs_B_u1 (c := 24) (i := ((h 0).toNat)) (x := xt12_) hBt12_ (by omega)
              refine wk_aload_n xd_112491b4 rfl ?_
              refine wk_getR xf_fab5b2af xd_1480e770 ?_
              refine wk_iload_n xd_761bcafa rfl ?_
              refine wk_iconst xd_ab420882 ?_
              refine aw_iadd (a := (((h 0).toNat : Int) : Int)) (b := (1 : Int)) (e := (((h 0).toNat : Int) + 1 : Int)) xd_e90cdb3d (show ((w.1 18 3)).toInt = (((h 0).toNat : Int) : Int) from hcn.1) (show ((Int32.ofInt 1)).toInt = 1 from by decide) (by omega) (by omega) (by omega) (fun v21_ p21_ => ?_)
              refine wk_putI xf_b1593ba1 (fun ci => wk_fitI ci) xd_08efda0e ?_
              have hV22_ := cs_V_u1 (c := 18) (i := 3) (x := v21_) hV19_ (by omega) (by omega)
              have hB23_ := cs_B_u1 (c := 18) (i := 3) (x := v21_) hB20_ (by omega)
              refine wk_aload_n xd_9001f493 rfl ?_
              refine wk_getR xf_9b50af83 xd_a3accd45 ?_
              obtain ⟨xg24_, hCg24_, eg24_⟩ := cs_goodB hB23_
              refine wk_call (kd := 0) (i := 82) xd_4284eb5d rfl (wk_cal (as := [.inr (.inr (some 2))]) (t := []) xl_1d699613 rfl xn_59a494c6 xc_7b6444b6 rfl rfl xv_433dc8e2 rfl) (cm_C_mono (by omega) hCg24_) ?_
              exact wk_ireturn xd_51177394 xr_23b726a5 (aw_bit (by have := eg24_; omega) (by have := eg24_; omega)) ⟨_, _, rfl, hV22_, cs_P_e ((ps_pers_n (by omega) ef).trans (congrArg (ps_end _ _ _ _ _) ((ps_nums_ok et6_).trans ((ps_nums_ok et9_).trans (ps_nums_no et12_))))) eg24_ hB23_⟩
          · skip
            refine aw_iastore (i := ((h 0).toNat)) xf_d4be2dca (show ((w.1 18 3)).toInt = (((h 0).toNat : Int) : Int) from hcn.1) (by omega) (by omega) xd_e0f8aa02 ?_
            have hV25_ := cs_V_u1 (c := 23) (i := ((h 0).toNat)) (x := xt9_) hVt9_a (by omega) (by omega)
            have hB26_ := cs_B_u1 (c := 23) (i := ((h 0).toNat)) (x := xt9_) hBt9_ (by omega)
            refine wk_aload_n xd_4e80ec27 rfl ?_
            refine wk_getR xf_fab5b2af xd_60586c8c ?_
            refine wk_getR xf_b0c9b844 xd_a50101c4 ?_
            refine wk_iload_n xd_5fbf6ce1 rfl ?_
            refine wk_aload_n xd_22335ae9 rfl ?_
            refine wk_getR xf_9b50af83 xd_13ce67c9 ?_
            refine wk_iconst xd_95dcfd9f ?_
            refine wk_sipush xd_7254905f ?_
            refine wk_call (kd := 0) (i := 75) xd_cf9385b5 rfl (wk_cal (as := [.inr (.inr (some 2)), .inl (Int32.ofInt 0), .inl ((Int16.ofInt 999).toInt32)]) (t := [.inl (w.1 18 3), .inr (.inr (some 24))]) xl_328615fa rfl xn_4f3a315b xc_18628866 rfl rfl xv_017ac5ff rfl) (cm_C_mono (by omega) (cs_numB (a := (Int32.ofInt 0)) (b := ((Int16.ofInt 999).toInt32)) hB26_)) ?_
            refine aw_iastore (i := ((h 0).toNat)) xf_a9cd2b92 (show ((w.1 18 3)).toInt = (((h 0).toNat : Int) : Int) from hcn.1) (by omega) (by omega) xd_c4f0eda3 ?_
            have hV27_ := cs_V_u1 (c := 24) (i := ((h 0).toNat)) (x := (Int32.ofInt (-1))) hV25_ (by omega) (by omega)
            have hB28_ := cs_B_u1 (c := 24) (i := ((h 0).toNat)) (x := (Int32.ofInt (-1))) hB26_ (by omega)
            refine wk_aload_n xd_112491b4 rfl ?_
            refine wk_getR xf_fab5b2af xd_1480e770 ?_
            refine wk_iload_n xd_761bcafa rfl ?_
            refine wk_iconst xd_ab420882 ?_
            refine aw_iadd (a := (((h 0).toNat : Int) : Int)) (b := (1 : Int)) (e := (((h 0).toNat : Int) + 1 : Int)) xd_e90cdb3d (show ((w.1 18 3)).toInt = (((h 0).toNat : Int) : Int) from hcn.1) (show ((Int32.ofInt 1)).toInt = 1 from by decide) (by omega) (by omega) (by omega) (fun v29_ p29_ => ?_)
            refine wk_putI xf_b1593ba1 (fun ci => wk_fitI ci) xd_08efda0e ?_
            have hV30_ := cs_V_u1 (c := 18) (i := 3) (x := v29_) hV27_ (by omega) (by omega)
            have hB31_ := cs_B_u1 (c := 18) (i := 3) (x := v29_) hB28_ (by omega)
            refine wk_aload_n xd_9001f493 rfl ?_
            refine wk_getR xf_9b50af83 xd_a3accd45 ?_
            obtain ⟨xg32_, hCg32_, eg32_⟩ := cs_goodB hB31_
            refine wk_call (kd := 0) (i := 82) xd_4284eb5d rfl (wk_cal (as := [.inr (.inr (some 2))]) (t := []) xl_1d699613 rfl xn_59a494c6 xc_7b6444b6 rfl rfl xv_433dc8e2 rfl) (cm_C_mono (by omega) hCg32_) ?_
            exact wk_ireturn xd_51177394 xr_23b726a5 (aw_bit (by have := eg32_; omega) (by have := eg32_; omega)) ⟨_, _, rfl, hV30_, cs_P_e ((ps_pers_n (by omega) ef).trans (congrArg (ps_end _ _ _ _ _) ((ps_nums_ok et6_).trans (ps_nums_no et9_)))) eg32_ hB31_⟩
        · skip
          refine aw_iastore (i := ((h 0).toNat)) xf_0928f44f (show ((w.1 18 3)).toInt = (((h 0).toNat : Int) : Int) from hcn.1) (by omega) (by omega) xd_2b4ad682 ?_
          have hV33_ := cs_V_u1 (c := 22) (i := ((h 0).toNat)) (x := xt6_) hVt6_a (by omega) (by omega)
          have hB34_ := cs_B_u1 (c := 22) (i := ((h 0).toNat)) (x := xt6_) hBt6_ (by omega)
          refine wk_aload_n xd_2cb082c9 rfl ?_
          refine wk_getR xf_fab5b2af xd_0aaf9c81 ?_
          refine wk_getR xf_e8203e10 xd_598a1d58 ?_
          refine wk_iload_n xd_3d8f020f rfl ?_
          refine wk_aload_n xd_40033407 rfl ?_
          refine wk_getR xf_9b50af83 xd_541e98d8 ?_
          refine wk_iconst xd_78afccc3 ?_
          refine wk_sipush xd_066b2129 ?_
          refine wk_call (kd := 0) (i := 75) xd_9efcb1db rfl (wk_cal (as := [.inr (.inr (some 2)), .inl (Int32.ofInt 0), .inl ((Int16.ofInt 199).toInt32)]) (t := [.inl (w.1 18 3), .inr (.inr (some 23))]) xl_328615fa rfl xn_4f3a315b xc_18628866 rfl rfl xv_017ac5ff rfl) (cm_C_mono (by omega) (cs_numB (a := (Int32.ofInt 0)) (b := ((Int16.ofInt 199).toInt32)) hB34_)) ?_
          refine aw_iastore (i := ((h 0).toNat)) xf_d4be2dca (show ((w.1 18 3)).toInt = (((h 0).toNat : Int) : Int) from hcn.1) (by omega) (by omega) xd_e0f8aa02 ?_
          have hV35_ := cs_V_u1 (c := 23) (i := ((h 0).toNat)) (x := (Int32.ofInt (-1))) hV33_ (by omega) (by omega)
          have hB36_ := cs_B_u1 (c := 23) (i := ((h 0).toNat)) (x := (Int32.ofInt (-1))) hB34_ (by omega)
          refine wk_aload_n xd_4e80ec27 rfl ?_
          refine wk_getR xf_fab5b2af xd_60586c8c ?_
          refine wk_getR xf_b0c9b844 xd_a50101c4 ?_
          refine wk_iload_n xd_5fbf6ce1 rfl ?_
          refine wk_aload_n xd_22335ae9 rfl ?_
          refine wk_getR xf_9b50af83 xd_13ce67c9 ?_
          refine wk_iconst xd_95dcfd9f ?_
          refine wk_sipush xd_7254905f ?_
          refine wk_call (kd := 0) (i := 75) xd_cf9385b5 rfl (wk_cal (as := [.inr (.inr (some 2)), .inl (Int32.ofInt 0), .inl ((Int16.ofInt 999).toInt32)]) (t := [.inl (w.1 18 3), .inr (.inr (some 24))]) xl_328615fa rfl xn_4f3a315b xc_18628866 rfl rfl xv_017ac5ff rfl) (cm_C_mono (by omega) (cs_numB (a := (Int32.ofInt 0)) (b := ((Int16.ofInt 999).toInt32)) hB36_)) ?_
          refine aw_iastore (i := ((h 0).toNat)) xf_a9cd2b92 (show ((w.1 18 3)).toInt = (((h 0).toNat : Int) : Int) from hcn.1) (by omega) (by omega) xd_c4f0eda3 ?_
          have hV37_ := cs_V_u1 (c := 24) (i := ((h 0).toNat)) (x := (Int32.ofInt (-1))) hV35_ (by omega) (by omega)
          have hB38_ := cs_B_u1 (c := 24) (i := ((h 0).toNat)) (x := (Int32.ofInt (-1))) hB36_ (by omega)
          refine wk_aload_n xd_112491b4 rfl ?_
          refine wk_getR xf_fab5b2af xd_1480e770 ?_
          refine wk_iload_n xd_761bcafa rfl ?_
          refine wk_iconst xd_ab420882 ?_
          refine aw_iadd (a := (((h 0).toNat : Int) : Int)) (b := (1 : Int)) (e := (((h 0).toNat : Int) + 1 : Int)) xd_e90cdb3d (show ((w.1 18 3)).toInt = (((h 0).toNat : Int) : Int) from hcn.1) (show ((Int32.ofInt 1)).toInt = 1 from by decide) (by omega) (by omega) (by omega) (fun v39_ p39_ => ?_)
          refine wk_putI xf_b1593ba1 (fun ci => wk_fitI ci) xd_08efda0e ?_
          have hV40_ := cs_V_u1 (c := 18) (i := 3) (x := v39_) hV37_ (by omega) (by omega)
          have hB41_ := cs_B_u1 (c := 18) (i := 3) (x := v39_) hB38_ (by omega)
          refine wk_aload_n xd_9001f493 rfl ?_
          refine wk_getR xf_9b50af83 xd_a3accd45 ?_
          obtain ⟨xg42_, hCg42_, eg42_⟩ := cs_goodB hB41_
          refine wk_call (kd := 0) (i := 82) xd_4284eb5d rfl (wk_cal (as := [.inr (.inr (some 2))]) (t := []) xl_1d699613 rfl xn_59a494c6 xc_7b6444b6 rfl rfl xv_433dc8e2 rfl) (cm_C_mono (by omega) hCg42_) ?_
          exact wk_ireturn xd_51177394 xr_23b726a5 (aw_bit (by have := eg42_; omega) (by have := eg42_; omega)) ⟨_, _, rfl, hV40_, cs_P_e ((ps_pers_n (by omega) ef).trans (congrArg (ps_end _ _ _ _ _) (ps_nums_no et6_))) eg42_ hB41_⟩
      · skip
        refine aw_lastore (i := ((h 0).toNat)) xf_6fe648f8 (show ((w.1 18 3)).toInt = (((h 0).toNat : Int) : Int) from hcn.1) (by omega) (by omega) xd_0f5331a3 ?_
        have hV43_ := cs_V_u2 (c := 19) (i := ((h 0).toNat)) (x := xf3_) hVf3_a (by omega) (by omega)
        have hB44_ := cs_B_u2 (c := 19) (i := ((h 0).toNat)) (x := xf3_) hBf3_ (by omega)
        refine wk_aload_n xd_6ef8a412 rfl ?_
        refine wk_getR xf_fab5b2af xd_d1b52b46 ?_
        refine wk_getR xf_b24c8d45 xd_960f2b8d ?_
        refine wk_iload_n xd_fe5b02d5 rfl ?_
        refine wk_aload_n xd_024b12dc rfl ?_
        refine wk_getR xf_9b50af83 xd_9c6617ad ?_
        refine wk_iconst xd_82117bea ?_
        refine wk_bipush xd_5627ebe1 ?_
        refine wk_call (kd := 0) (i := 75) xd_83336079 rfl (wk_cal (as := [.inr (.inr (some 2)), .inl (Int32.ofInt 0), .inl ((Int8.ofInt 9).toInt32)]) (t := [.inl (w.1 18 3), .inr (.inr (some 22))]) xl_328615fa rfl xn_4f3a315b xc_18628866 rfl rfl xv_017ac5ff rfl) (cm_C_mono (by omega) (cs_numB (a := (Int32.ofInt 0)) (b := ((Int8.ofInt 9).toInt32)) hB44_)) ?_
        refine aw_iastore (i := ((h 0).toNat)) xf_0928f44f (show ((w.1 18 3)).toInt = (((h 0).toNat : Int) : Int) from hcn.1) (by omega) (by omega) xd_2b4ad682 ?_
        have hV45_ := cs_V_u1 (c := 22) (i := ((h 0).toNat)) (x := (Int32.ofInt (-1))) hV43_ (by omega) (by omega)
        have hB46_ := cs_B_u1 (c := 22) (i := ((h 0).toNat)) (x := (Int32.ofInt (-1))) hB44_ (by omega)
        refine wk_aload_n xd_2cb082c9 rfl ?_
        refine wk_getR xf_fab5b2af xd_0aaf9c81 ?_
        refine wk_getR xf_e8203e10 xd_598a1d58 ?_
        refine wk_iload_n xd_3d8f020f rfl ?_
        refine wk_aload_n xd_40033407 rfl ?_
        refine wk_getR xf_9b50af83 xd_541e98d8 ?_
        refine wk_iconst xd_78afccc3 ?_
        refine wk_sipush xd_066b2129 ?_
        refine wk_call (kd := 0) (i := 75) xd_9efcb1db rfl (wk_cal (as := [.inr (.inr (some 2)), .inl (Int32.ofInt 0), .inl ((Int16.ofInt 199).toInt32)]) (t := [.inl (w.1 18 3), .inr (.inr (some 23))]) xl_328615fa rfl xn_4f3a315b xc_18628866 rfl rfl xv_017ac5ff rfl) (cm_C_mono (by omega) (cs_numB (a := (Int32.ofInt 0)) (b := ((Int16.ofInt 199).toInt32)) hB46_)) ?_
        refine aw_iastore (i := ((h 0).toNat)) xf_d4be2dca (show ((w.1 18 3)).toInt = (((h 0).toNat : Int) : Int) from hcn.1) (by omega) (by omega) xd_e0f8aa02 ?_
        have hV47_ := cs_V_u1 (c := 23) (i := ((h 0).toNat)) (x := (Int32.ofInt (-1))) hV45_ (by omega) (by omega)
        have hB48_ := cs_B_u1 (c := 23) (i := ((h 0).toNat)) (x := (Int32.ofInt (-1))) hB46_ (by omega)
        refine wk_aload_n xd_4e80ec27 rfl ?_
        refine wk_getR xf_fab5b2af xd_60586c8c ?_
        refine wk_getR xf_b0c9b844 xd_a50101c4 ?_
        refine wk_iload_n xd_5fbf6ce1 rfl ?_
        refine wk_aload_n xd_22335ae9 rfl ?_
        refine wk_getR xf_9b50af83 xd_13ce67c9 ?_
        refine wk_iconst xd_95dcfd9f ?_
        refine wk_sipush xd_7254905f ?_
        refine wk_call (kd := 0) (i := 75) xd_cf9385b5 rfl (wk_cal (as := [.inr (.inr (some 2)), .inl (Int32.ofInt 0), .inl ((Int16.ofInt 999).toInt32)]) (t := [.inl (w.1 18 3), .inr (.inr (some 24))]) xl_328615fa rfl xn_4f3a315b xc_18628866 rfl rfl xv_017ac5ff rfl) (cm_C_mono (by omega) (cs_numB (a := (Int32.ofInt 0)) (b := ((Int16.ofInt 999).toInt32)) hB48_)) ?_
        refine aw_iastore (i := ((h 0).toNat)) xf_a9cd2b92 (show ((w.1 18 3)).toInt = (((h 0).toNat : Int) : Int) from hcn.1) (by omega) (by omega) xd_c4f0eda3 ?_
        have hV49_ := cs_V_u1 (c := 24) (i := ((h 0).toNat)) (x := (Int32.ofInt (-1))) hV47_ (by omega) (by omega)
        have hB50_ := cs_B_u1 (c := 24) (i := ((h 0).toNat)) (x := (Int32.ofInt (-1))) hB48_ (by omega)
        refine wk_aload_n xd_112491b4 rfl ?_
        refine wk_getR xf_fab5b2af xd_1480e770 ?_
        refine wk_iload_n xd_761bcafa rfl ?_
        refine wk_iconst xd_ab420882 ?_
        refine aw_iadd (a := (((h 0).toNat : Int) : Int)) (b := (1 : Int)) (e := (((h 0).toNat : Int) + 1 : Int)) xd_e90cdb3d (show ((w.1 18 3)).toInt = (((h 0).toNat : Int) : Int) from hcn.1) (show ((Int32.ofInt 1)).toInt = 1 from by decide) (by omega) (by omega) (by omega) (fun v51_ p51_ => ?_)
        refine wk_putI xf_b1593ba1 (fun ci => wk_fitI ci) xd_08efda0e ?_
        have hV52_ := cs_V_u1 (c := 18) (i := 3) (x := v51_) hV49_ (by omega) (by omega)
        have hB53_ := cs_B_u1 (c := 18) (i := 3) (x := v51_) hB50_ (by omega)
        refine wk_aload_n xd_9001f493 rfl ?_
        refine wk_getR xf_9b50af83 xd_a3accd45 ?_
        obtain ⟨xg54_, hCg54_, eg54_⟩ := cs_goodB hB53_
        refine wk_call (kd := 0) (i := 82) xd_4284eb5d rfl (wk_cal (as := [.inr (.inr (some 2))]) (t := []) xl_1d699613 rfl xn_59a494c6 xc_7b6444b6 rfl rfl xv_433dc8e2 rfl) (cm_C_mono (by omega) hCg54_) ?_
        exact wk_ireturn xd_51177394 xr_23b726a5 (aw_bit (by have := eg54_; omega) (by have := eg54_; omega)) ⟨_, _, rfl, hV52_, cs_P_e (ps_pers_e (by omega) ef) eg54_ hB53_⟩
    · have h11_0 := aw_lt_f (a := (((h 0).toNat : Int) : Int)) (b := (6 : Int)) (show ((w.1 18 3)).toInt = (((h 0).toNat : Int) : Int) from hcn.1) (show (((Int8.ofInt 6).toInt32)).toInt = 6 from by decide) h11_0
      refine wk_aload_n xd_f062c7c4 rfl ?_
      refine wk_getR xf_9b50af83 xd_56c36a21 ?_
      refine wk_iconst xd_8507ad79 ?_
      obtain ⟨wr55_, hCr55_, hVr55_, hBr55_, hFr55_⟩ := cs_ref (k := (Int32.ofInt 4)) (c := 4) hM (by decide) (by decide)
      have hVr55_a := cs_V_tr (cs_V_rf w) hVr55_
      refine wk_call (kd := 0) (i := 69) xd_8a601e91 rfl (wk_cal (as := [.inr (.inr (some 2)), .inl (Int32.ofInt 4)]) (t := []) xl_3a5724b5 rfl xn_b5464d7d xc_49a83f99 rfl rfl xv_780065b9 rfl) (cm_C_mono (by omega) hCr55_) ?_
      exact wk_ireturn xd_abc834e0 xr_23b726a5 wk_z0 ⟨_, _, rfl, hVr55_a, cs_P_e (ps_pers_f (by omega)) (by decide) hBr55_⟩
  obtain ⟨o, hC, x, w', rfl, a⟩ := h
  exact ⟨x, w', hC, a⟩
theorem cl_food {w : cm_W} {T : Nat → Int} {n m p : Nat} {f : Nat → Int} {g : Nat → Int64} {a0 b0 : Int} {h : Nat → Int} {nm : Nat → Nat} (hM : cs_M w T n m p f g a0 b0) (hQ : ps_Q id f g h nm) (hs : 1 ≤ (tx_tk T n m p).1 ∧ (tx_tk T n m p).1 ≤ 3)  : ∃ x w', cm_C 5 234 [.inr (.inr (some 32))] w (some (.inl x), w') ∧ cs_V w w' ∧ cs_P T n m (ps_food T n m h nm a0 b0 p) x w' := by
  have hbd := hQ.2.2
  unfold ps_bd at hbd
  have hcn := vl_cnt (cs_R hM hQ)
  have h : ∃ o, cm_C (4 + 1) 234 [.inr (.inr (some 32))] w o ∧ (fun o : cm_O => ∃ x w', o = (some (.inl x), w') ∧ cs_V w w' ∧ cs_P T n m (ps_food T n m h nm a0 b0 p) x w') o := by
    refine wk_entry (by rw [xm_e73fdda6]; exact Nat.le_of_ble_eq_true rfl) ?_
    rw [show cm_ent 234 [.inr (.inr (some 32))] = [some (.inr (.inr (some 32))), none] from by unfold cm_ent; rw [xm_e73fdda6]; rfl]
    refine wk_aload_n xd_a32553b0 rfl ?_
    refine wk_getR xf_cf5804fc xd_058633e9 ?_
    refine wk_getI xf_08497d06 xd_2430a8f8 ?_
    refine wk_istore_n xd_67cb804e (by rw [xm_e73fdda6]; rfl) rfl ?_
    refine wk_iload_n xd_c4ffea4b rfl ?_
    refine wk_iconst xd_3a891e4b ?_
    refine wk_icmp xd_fa0341c6 (t := 22) rfl (fun h10_0 => ?_) (fun h10_0 => ?_)
    · have h10_0 := aw_lt_t (a := (((h 1).toNat : Int) : Int)) (b := (4 : Int)) (show ((w.1 18 4)).toInt = (((h 1).toNat : Int) : Int) from hcn.2.1) (show ((Int32.ofInt 4)).toInt = 4 from by decide) h10_0
      refine wk_aload_n xd_f6223155 rfl ?_
      refine wk_getR xf_edb596be xd_d1cd8905 ?_
      obtain ⟨wn2_, hCn2_, hVn2_, hMn2_⟩ := cs_next hM hs
      have hVn2_a := cs_V_tr (cs_V_rf w) hVn2_
      refine wk_call (kd := 0) (i := 72) xd_c5168135 rfl (wk_cal (as := [.inr (.inr (some 2))]) (t := []) xl_209b9f98 rfl xn_568f4fa7 xc_1d38a579 rfl rfl xv_65cfb41b rfl) (cm_C_mono (by omega) hCn2_) ?_
      refine wk_aload_n xd_807e4b4e rfl ?_
      refine wk_getR xf_cf5804fc xd_57c371f7 ?_
      refine wk_getR xf_8db03828 xd_5393d178 ?_
      refine wk_iload_n xd_10380f3c rfl ?_
      refine wk_aload_n xd_ec281f35 rfl ?_
      obtain ⟨xf3_, wf3_, hCf3_, hVf3_, hRf3_⟩ := cs_fresh hMn2_ hQ
      have hVf3_a := cs_V_tr hVn2_a hVf3_
      refine wk_call (kd := 0) (i := 98) xd_0a7f4404 rfl (wk_cal (as := [.inr (.inr (some 32))]) (t := [.inl (w.1 18 4), .inr (.inr (some 20))]) xl_93467fd1 rfl xn_ea0ee8e0 xc_46748db1 rfl rfl xv_98e22893 rfl) (cm_C_mono (by omega) hCf3_) ?_
      rcases hRf3_ with ⟨c, q, ef, hc, rfl, hMf3_⟩ | ⟨kf, qf, ef, hBf3_, hFf3_⟩
      · skip
        refine aw_lastore (i := ((h 1).toNat)) xf_4834024e (show ((w.1 18 4)).toInt = (((h 1).toNat : Int) : Int) from hcn.2.1) (by omega) (by omega) xd_41a00513 ?_
        have hV4_ := cs_V_u2 (c := 20) (i := ((h 1).toNat)) (x := (Int64.ofNat c)) hVf3_a (by omega) (by omega)
        have hM5_ := cs_M_u2 (x := (Int64.ofNat c)) hMf3_ (by omega) (by omega) (vl_s2 18 (i := ((h 1).toNat)) (by omega))
        refine wk_aload_n xd_461f6305 rfl ?_
        refine wk_getR xf_cf5804fc xd_baedbc82 ?_
        refine wk_getR xf_433b08b2 xd_b45f6306 ?_
        refine wk_iload_n xd_5720e3c3 rfl ?_
        refine wk_aload_n xd_2aacd5cb rfl ?_
        refine wk_getR xf_edb596be xd_c6a6b9a2 ?_
        refine wk_iconst xd_5a0edb62 ?_
        refine wk_bipush xd_2a9e5d70 ?_
        obtain ⟨xt6_, wt6_, hCt6_, hVt6_, hRt6_⟩ := cs_num (a := (Int32.ofInt 1)) (b := ((Int8.ofInt 60).toInt32)) (lo := 1) (hi := 60) hM5_ (by decide) (by decide)
        have hVt6_a := cs_V_tr hV4_ hVt6_
        refine wk_call (kd := 0) (i := 75) xd_63e1241a rfl (wk_cal (as := [.inr (.inr (some 2)), .inl (Int32.ofInt 1), .inl ((Int8.ofInt 60).toInt32)]) (t := [.inl (w.1 18 4), .inr (.inr (some 25))]) xl_fb991d45 rfl xn_4f3a315b xc_18628866 rfl rfl xv_017ac5ff rfl) (cm_C_mono (by omega) hCt6_) ?_
        rcases hRt6_ with ⟨et6_, hxt6_, hMt6_⟩ | ⟨et6_, hxt6_, hBt6_⟩
        · skip
          refine aw_iastore (i := ((h 1).toNat)) xf_367ef56a (show ((w.1 18 4)).toInt = (((h 1).toNat : Int) : Int) from hcn.2.1) (by omega) (by omega) xd_817de34f ?_
          have hV7_ := cs_V_u1 (c := 25) (i := ((h 1).toNat)) (x := xt6_) hVt6_a (by omega) (by omega)
          have hM8_ := cs_M_u1 hMt6_ (by omega) (by omega) (show (xt6_).toInt = (tx_tk T n m q).2.2.2.1 from hxt6_) (vl_r7 18 (i := ((h 1).toNat)) (by omega))
          refine wk_aload_n xd_e9c19637 rfl ?_
          refine wk_getR xf_cf5804fc xd_0a2c67e3 ?_
          refine wk_getR xf_1db718ed xd_1094a8a3 ?_
          refine wk_iload_n xd_1568c518 rfl ?_
          refine wk_aload_n xd_e978d511 rfl ?_
          refine wk_getR xf_edb596be xd_d7e5fad8 ?_
          refine wk_iconst xd_ef211f7b ?_
          refine wk_iconst xd_4218ae4b ?_
          obtain ⟨xt9_, wt9_, hCt9_, hVt9_, hRt9_⟩ := cs_num (a := (Int32.ofInt 0)) (b := (Int32.ofInt 5)) (lo := 0) (hi := 5) hM8_ (by decide) (by decide)
          have hVt9_a := cs_V_tr hV7_ hVt9_
          refine wk_call (kd := 0) (i := 75) xd_06ef33a8 rfl (wk_cal (as := [.inr (.inr (some 2)), .inl (Int32.ofInt 0), .inl (Int32.ofInt 5)]) (t := [.inl (w.1 18 4), .inr (.inr (some 26))]) xl_fb991d45 rfl xn_4f3a315b xc_18628866 rfl rfl xv_017ac5ff rfl) (cm_C_mono (by omega) hCt9_) ?_
          rcases hRt9_ with ⟨et9_, hxt9_, hMt9_⟩ | ⟨et9_, hxt9_, hBt9_⟩
          · skip
            refine aw_iastore (i := ((h 1).toNat)) xf_8bb499a4 (show ((w.1 18 4)).toInt = (((h 1).toNat : Int) : Int) from hcn.2.1) (by omega) (by omega) xd_b3a78ef9 ?_
            have hV10_ := cs_V_u1 (c := 26) (i := ((h 1).toNat)) (x := xt9_) hVt9_a (by omega) (by omega)
            have hM11_ := cs_M_u1 hMt9_ (by omega) (by omega) (show (xt9_).toInt = (tx_tk T n m (tx_tk T n m q).2.2.1).2.2.2.1 from hxt9_) (vl_r8 18 (i := ((h 1).toNat)) (by omega))
            refine wk_aload_n xd_685db036 rfl ?_
            refine wk_getR xf_cf5804fc xd_f0bdb1b3 ?_
            refine wk_iload_n xd_0104d1ed rfl ?_
            refine wk_iconst xd_c198d303 ?_
            refine aw_iadd (a := (((h 1).toNat : Int) : Int)) (b := (1 : Int)) (e := (((h 1).toNat : Int) + 1 : Int)) xd_afc2c9c0 (show ((w.1 18 4)).toInt = (((h 1).toNat : Int) : Int) from hcn.2.1) (show ((Int32.ofInt 1)).toInt = 1 from by decide) (by omega) (by omega) (by omega) (fun v12_ p12_ => ?_)
            refine wk_putI xf_463a354c (fun ci => wk_fitI ci) xd_02909fcc ?_
            have hV13_ := cs_V_u1 (c := 18) (i := 4) (x := v12_) hV10_ (by omega) (by omega)
            have hM14_ := cs_M_u1 hM11_ (by omega) (by omega) (show (v12_).toInt = (h 1 + 1) from (by have e9 := p12_; omega)) (vl_q4 18)
            refine wk_aload_n xd_8b48bbff rfl ?_
            refine wk_getR xf_edb596be xd_903505c9 ?_
            obtain ⟨xg15_, hCg15_, eg15_⟩ := cs_good hM14_
            refine wk_call (kd := 0) (i := 82) xd_9db42333 rfl (wk_cal (as := [.inr (.inr (some 2))]) (t := []) xl_d4769eac rfl xn_59a494c6 xc_7b6444b6 rfl rfl xv_433dc8e2 rfl) (cm_C_mono (by omega) hCg15_) ?_
            exact wk_ireturn xd_0ce70d48 xr_702d7d21 (aw_bit (by have := eg15_; omega) (by have := eg15_; omega)) ⟨_, _, rfl, hV13_, cs_P_n ((ps_food_n (by omega) ef).trans (congrArg (ps_end _ _ _ _ _) ((ps_nums_ok et6_).trans (ps_nums_ok et9_)))) eg15_ hM14_ (ps_Q_food hc hQ (by omega))⟩
          · skip
            refine aw_iastore (i := ((h 1).toNat)) xf_8bb499a4 (show ((w.1 18 4)).toInt = (((h 1).toNat : Int) : Int) from hcn.2.1) (by omega) (by omega) xd_b3a78ef9 ?_
            have hV16_ := cs_V_u1 (c := 26) (i := ((h 1).toNat)) (x := xt9_) hVt9_a (by omega) (by omega)
            have hB17_ := cs_B_u1 (c := 26) (i := ((h 1).toNat)) (x := xt9_) hBt9_ (by omega)
            refine wk_aload_n xd_685db036 rfl ?_
            refine wk_getR xf_cf5804fc xd_f0bdb1b3 ?_
            refine wk_iload_n xd_0104d1ed rfl ?_
            refine wk_iconst xd_c198d303 ?_
            refine aw_iadd (a := (((h 1).toNat : Int) : Int)) (b := (1 : Int)) (e := (((h 1).toNat : Int) + 1 : Int)) xd_afc2c9c0 (show ((w.1 18 4)).toInt = (((h 1).toNat : Int) : Int) from hcn.2.1) (show ((Int32.ofInt 1)).toInt = 1 from by decide) (by omega) (by omega) (by omega) (fun v18_ p18_ => ?_)
            refine wk_putI xf_463a354c (fun ci => wk_fitI ci) xd_02909fcc ?_
            have hV19_ := cs_V_u1 (c := 18) (i := 4) (x := v18_) hV16_ (by omega) (by omega)
            have hB20_ := cs_B_u1 (c := 18) (i := 4) (x := v18_) hB17_ (by omega)
            refine wk_aload_n xd_8b48bbff rfl ?_
            refine wk_getR xf_edb596be xd_903505c9 ?_
            obtain ⟨xg21_, hCg21_, eg21_⟩ := cs_goodB hB20_
            refine wk_call (kd := 0) (i := 82) xd_9db42333 rfl (wk_cal (as := [.inr (.inr (some 2))]) (t := []) xl_d4769eac rfl xn_59a494c6 xc_7b6444b6 rfl rfl xv_433dc8e2 rfl) (cm_C_mono (by omega) hCg21_) ?_
            exact wk_ireturn xd_0ce70d48 xr_702d7d21 (aw_bit (by have := eg21_; omega) (by have := eg21_; omega)) ⟨_, _, rfl, hV19_, cs_P_e ((ps_food_n (by omega) ef).trans (congrArg (ps_end _ _ _ _ _) ((ps_nums_ok et6_).trans (ps_nums_no et9_)))) eg21_ hB20_⟩
        · skip
          refine aw_iastore (i := ((h 1).toNat)) xf_367ef56a (show ((w.1 18 4)).toInt = (((h 1).toNat : Int) : Int) from hcn.2.1) (by omega) (by omega) xd_817de34f ?_
          have hV22_ := cs_V_u1 (c := 25) (i := ((h 1).toNat)) (x := xt6_) hVt6_a (by omega) (by omega)
          have hB23_ := cs_B_u1 (c := 25) (i := ((h 1).toNat)) (x := xt6_) hBt6_ (by omega)
          refine wk_aload_n xd_e9c19637 rfl ?_
          refine wk_getR xf_cf5804fc xd_0a2c67e3 ?_
          refine wk_getR xf_1db718ed xd_1094a8a3 ?_
          refine wk_iload_n xd_1568c518 rfl ?_
          refine wk_aload_n xd_e978d511 rfl ?_
          refine wk_getR xf_edb596be xd_d7e5fad8 ?_
          refine wk_iconst xd_ef211f7b ?_
          refine wk_iconst xd_4218ae4b ?_
          refine wk_call (kd := 0) (i := 75) xd_06ef33a8 rfl (wk_cal (as := [.inr (.inr (some 2)), .inl (Int32.ofInt 0), .inl (Int32.ofInt 5)]) (t := [.inl (w.1 18 4), .inr (.inr (some 26))]) xl_fb991d45 rfl xn_4f3a315b xc_18628866 rfl rfl xv_017ac5ff rfl) (cm_C_mono (by omega) (cs_numB (a := (Int32.ofInt 0)) (b := (Int32.ofInt 5)) hB23_)) ?_
          refine aw_iastore (i := ((h 1).toNat)) xf_8bb499a4 (show ((w.1 18 4)).toInt = (((h 1).toNat : Int) : Int) from hcn.2.1) (by omega) (by omega) xd_b3a78ef9 ?_
          have hV24_ := cs_V_u1 (c := 26) (i := ((h 1).toNat)) (x := (Int32.ofInt (-1))) hV22_ (by omega) (by omega)
          have hB25_ := cs_B_u1 (c := 26) (i := ((h 1).toNat)) (x := (Int32.ofInt (-1))) hB23_ (by omega)
          refine wk_aload_n xd_685db036 rfl ?_
          refine wk_getR xf_cf5804fc xd_f0bdb1b3 ?_
          refine wk_iload_n xd_0104d1ed rfl ?_
          refine wk_iconst xd_c198d303 ?_
          refine aw_iadd (a := (((h 1).toNat : Int) : Int)) (b := (1 : Int)) (e := (((h 1).toNat : Int) + 1 : Int)) xd_afc2c9c0 (show ((w.1 18 4)).toInt = (((h 1).toNat : Int) : Int) from hcn.2.1) (show ((Int32.ofInt 1)).toInt = 1 from by decide) (by omega) (by omega) (by omega) (fun v26_ p26_ => ?_)
          refine wk_putI xf_463a354c (fun ci => wk_fitI ci) xd_02909fcc ?_
          have hV27_ := cs_V_u1 (c := 18) (i := 4) (x := v26_) hV24_ (by omega) (by omega)
          have hB28_ := cs_B_u1 (c := 18) (i := 4) (x := v26_) hB25_ (by omega)
          refine wk_aload_n xd_8b48bbff rfl ?_
          refine wk_getR xf_edb596be xd_903505c9 ?_
          obtain ⟨xg29_, hCg29_, eg29_⟩ := cs_goodB hB28_
          refine wk_call (kd := 0) (i := 82) xd_9db42333 rfl (wk_cal (as := [.inr (.inr (some 2))]) (t := []) xl_d4769eac rfl xn_59a494c6 xc_7b6444b6 rfl rfl xv_433dc8e2 rfl) (cm_C_mono (by omega) hCg29_) ?_
          exact wk_ireturn xd_0ce70d48 xr_702d7d21 (aw_bit (by have := eg29_; omega) (by have := eg29_; omega)) ⟨_, _, rfl, hV27_, cs_P_e ((ps_food_n (by omega) ef).trans (congrArg (ps_end _ _ _ _ _) (ps_nums_no et6_))) eg29_ hB28_⟩
      · skip
        refine aw_lastore (i := ((h 1).toNat)) xf_4834024e (show ((w.1 18 4)).toInt = (((h 1).toNat : Int) : Int) from hcn.2.1) (by omega) (by omega) xd_41a00513 ?_
        have hV30_ := cs_V_u2 (c := 20) (i := ((h 1).toNat)) (x := xf3_) hVf3_a (by omega) (by omega)
        have hB31_ := cs_B_u2 (c := 20) (i := ((h 1).toNat)) (x := xf3_) hBf3_ (by omega)
        refine wk_aload_n xd_461f6305 rfl ?_
        refine wk_getR xf_cf5804fc xd_baedbc82 ?_
        refine wk_getR xf_433b08b2 xd_b45f6306 ?_
        refine wk_iload_n xd_5720e3c3 rfl ?_
        refine wk_aload_n xd_2aacd5cb rfl ?_
        refine wk_getR xf_edb596be xd_c6a6b9a2 ?_
        refine wk_iconst xd_5a0edb62 ?_
        refine wk_bipush xd_2a9e5d70 ?_
        refine wk_call (kd := 0) (i := 75) xd_63e1241a rfl (wk_cal (as := [.inr (.inr (some 2)), .inl (Int32.ofInt 1), .inl ((Int8.ofInt 60).toInt32)]) (t := [.inl (w.1 18 4), .inr (.inr (some 25))]) xl_fb991d45 rfl xn_4f3a315b xc_18628866 rfl rfl xv_017ac5ff rfl) (cm_C_mono (by omega) (cs_numB (a := (Int32.ofInt 1)) (b := ((Int8.ofInt 60).toInt32)) hB31_)) ?_
        refine aw_iastore (i := ((h 1).toNat)) xf_367ef56a (show ((w.1 18 4)).toInt = (((h 1).toNat : Int) : Int) from hcn.2.1) (by omega) (by omega) xd_817de34f ?_
        have hV32_ := cs_V_u1 (c := 25) (i := ((h 1).toNat)) (x := (Int32.ofInt (-1))) hV30_ (by omega) (by omega)
        have hB33_ := cs_B_u1 (c := 25) (i := ((h 1).toNat)) (x := (Int32.ofInt (-1))) hB31_ (by omega)
        refine wk_aload_n xd_e9c19637 rfl ?_
        refine wk_getR xf_cf5804fc xd_0a2c67e3 ?_
        refine wk_getR xf_1db718ed xd_1094a8a3 ?_
        refine wk_iload_n xd_1568c518 rfl ?_
        refine wk_aload_n xd_e978d511 rfl ?_
        refine wk_getR xf_edb596be xd_d7e5fad8 ?_
        refine wk_iconst xd_ef211f7b ?_
        refine wk_iconst xd_4218ae4b ?_
        refine wk_call (kd := 0) (i := 75) xd_06ef33a8 rfl (wk_cal (as := [.inr (.inr (some 2)), .inl (Int32.ofInt 0), .inl (Int32.ofInt 5)]) (t := [.inl (w.1 18 4), .inr (.inr (some 26))]) xl_fb991d45 rfl xn_4f3a315b xc_18628866 rfl rfl xv_017ac5ff rfl) (cm_C_mono (by omega) (cs_numB (a := (Int32.ofInt 0)) (b := (Int32.ofInt 5)) hB33_)) ?_
        refine aw_iastore (i := ((h 1).toNat)) xf_8bb499a4 (show ((w.1 18 4)).toInt = (((h 1).toNat : Int) : Int) from hcn.2.1) (by omega) (by omega) xd_b3a78ef9 ?_
        have hV34_ := cs_V_u1 (c := 26) (i := ((h 1).toNat)) (x := (Int32.ofInt (-1))) hV32_ (by omega) (by omega)
        have hB35_ := cs_B_u1 (c := 26) (i := ((h 1).toNat)) (x := (Int32.ofInt (-1))) hB33_ (by omega)
        refine wk_aload_n xd_685db036 rfl ?_
        refine wk_getR xf_cf5804fc xd_f0bdb1b3 ?_
        refine wk_iload_n xd_0104d1ed rfl ?_
        refine wk_iconst xd_c198d303 ?_
        refine aw_iadd (a := (((h 1).toNat : Int) : Int)) (b := (1 : Int)) (e := (((h 1).toNat : Int) + 1 : Int)) xd_afc2c9c0 (show ((w.1 18 4)).toInt = (((h 1).toNat : Int) : Int) from hcn.2.1) (show ((Int32.ofInt 1)).toInt = 1 from by decide) (by omega) (by omega) (by omega) (fun v36_ p36_ => ?_)
        refine wk_putI xf_463a354c (fun ci => wk_fitI ci) xd_02909fcc ?_
        have hV37_ := cs_V_u1 (c := 18) (i := 4) (x := v36_) hV34_ (by omega) (by omega)
        have hB38_ := cs_B_u1 (c := 18) (i := 4) (x := v36_) hB35_ (by omega)
        refine wk_aload_n xd_8b48bbff rfl ?_
        refine wk_getR xf_edb596be xd_903505c9 ?_
        obtain ⟨xg39_, hCg39_, eg39_⟩ := cs_goodB hB38_
        refine wk_call (kd := 0) (i := 82) xd_9db42333 rfl (wk_cal (as := [.inr (.inr (some 2))]) (t := []) xl_d4769eac rfl xn_59a494c6 xc_7b6444b6 rfl rfl xv_433dc8e2 rfl) (cm_C_mono (by omega) hCg39_) ?_
        exact wk_ireturn xd_0ce70d48 xr_702d7d21 (aw_bit (by have := eg39_; omega) (by have := eg39_; omega)) ⟨_, _, rfl, hV37_, cs_P_e (ps_food_e (by omega) ef) eg39_ hB38_⟩
    · have h10_0 := aw_lt_f (a := (((h 1).toNat : Int) : Int)) (b := (4 : Int)) (show ((w.1 18 4)).toInt = (((h 1).toNat : Int) : Int) from hcn.2.1) (show ((Int32.ofInt 4)).toInt = 4 from by decide) h10_0
      refine wk_aload_n xd_354f72a9 rfl ?_
      refine wk_getR xf_edb596be xd_d5380821 ?_
      refine wk_iconst xd_abca58c1 ?_
      obtain ⟨wr40_, hCr40_, hVr40_, hBr40_, hFr40_⟩ := cs_ref (k := (Int32.ofInt 4)) (c := 4) hM (by decide) (by decide)
      have hVr40_a := cs_V_tr (cs_V_rf w) hVr40_
      refine wk_call (kd := 0) (i := 69) xd_db860ec3 rfl (wk_cal (as := [.inr (.inr (some 2)), .inl (Int32.ofInt 4)]) (t := []) xl_297f1dc6 rfl xn_b5464d7d xc_49a83f99 rfl rfl xv_780065b9 rfl) (cm_C_mono (by omega) hCr40_) ?_
      exact wk_ireturn xd_e53b0050 xr_702d7d21 wk_z0 ⟨_, _, rfl, hVr40_a, cs_P_e (ps_food_f (by omega)) (by decide) hBr40_⟩
  obtain ⟨o, hC, x, w', rfl, a⟩ := h
  exact ⟨x, w', hC, a⟩
theorem cl_span {w : cm_W} {T : Nat → Int} {n m p : Nat} {f : Nat → Int} {g : Nat → Int64} {a0 b0 : Int} {h : Nat → Int} {nm : Nat → Nat} (hM : cs_M w T n m p f g a0 b0) (hQ : ps_Q id f g h nm) (hs : 1 ≤ (tx_tk T n m p).1 ∧ (tx_tk T n m p).1 ≤ 3)  : ∃ x w', cm_C 5 238 [.inr (.inr (some 32))] w (some (.inl x), w') ∧ cs_V w w' ∧ cs_P T n m (ps_span T n m h nm a0 b0 p) x w' := by
  have h : ∃ o, cm_C (4 + 1) 238 [.inr (.inr (some 32))] w o ∧ (fun o : cm_O => ∃ x w', o = (some (.inl x), w') ∧ cs_V w w' ∧ cs_P T n m (ps_span T n m h nm a0 b0 p) x w') o := by
    refine wk_entry (by rw [xm_bbc6611d]; exact Nat.le_of_ble_eq_true rfl) ?_
    rw [show cm_ent 238 [.inr (.inr (some 32))] = [some (.inr (.inr (some 32)))] from by unfold cm_ent; rw [xm_bbc6611d]; rfl]
    refine wk_aload_n xd_dc98e8d2 rfl ?_
    refine wk_getI xf_3c182209 xd_b50a746b ?_
    refine wk_if xd_09e9f407 (t := 16) rfl (fun h4_0 => ?_) (fun h4_0 => ?_)
    · have h4_0 := aw_eq_t (a := (a0 : Int)) (b := (0 : Int)) (show ((w.1 32 2)).toInt = (a0 : Int) from hM.2.2.2.2.1) hb_z h4_0
      refine wk_aload_n xd_0da38421 rfl ?_
      refine wk_iconst xd_1c976cd3 ?_
      refine wk_putI xf_87793c75 (fun _ => aw_fb (.inr (by decide))) xd_9515f97b ?_
      have hV2_ := cs_V_u1 (c := 32) (i := 2) (x := (Int32.ofInt 1)) (cs_V_rf w) (by omega) (by omega)
      have hM3_ := cs_M_a hM (show ((Int32.ofInt 1)).toInt = 1 from by decide)
      refine wk_aload_n xd_2304b5a7 rfl ?_
      refine wk_getR xf_ed50740b xd_5b90f0be ?_
      obtain ⟨wn4_, hCn4_, hVn4_, hMn4_⟩ := cs_next hM3_ hs
      have hVn4_a := cs_V_tr hV2_ hVn4_
      refine wk_call (kd := 0) (i := 72) xd_ecdd6f04 rfl (wk_cal (as := [.inr (.inr (some 2))]) (t := []) xl_6c3b7a54 rfl xn_568f4fa7 xc_1d38a579 rfl rfl xv_65cfb41b rfl) (cm_C_mono (by omega) hCn4_) ?_
      refine wk_aload_n xd_b8ce1c55 rfl ?_
      refine wk_getR xf_18eeddb0 xd_c0ec73aa ?_
      refine wk_aload_n xd_d4c4e9bd rfl ?_
      refine wk_getR xf_ed50740b xd_7f3e0597 ?_
      refine wk_iconst xd_e629dbfa ?_
      refine wk_bipush xd_4f672310 ?_
      obtain ⟨xt5_, wt5_, hCt5_, hVt5_, hRt5_⟩ := cs_num (a := (Int32.ofInt 1)) (b := ((Int8.ofInt 20).toInt32)) (lo := 1) (hi := 20) hMn4_ (by decide) (by decide)
      have hVt5_a := cs_V_tr hVn4_a hVt5_
      refine wk_call (kd := 0) (i := 75) xd_99efc9e4 rfl (wk_cal (as := [.inr (.inr (some 2)), .inl (Int32.ofInt 1), .inl ((Int8.ofInt 20).toInt32)]) (t := [.inr (.inr (some 18))]) xl_6907333b rfl xn_4f3a315b xc_18628866 rfl rfl xv_017ac5ff rfl) (cm_C_mono (by omega) hCt5_) ?_
      rcases hRt5_ with ⟨et5_, hxt5_, hMt5_⟩ | ⟨et5_, hxt5_, hBt5_⟩
      · skip
        refine wk_putI xf_431a1ee6 (fun ci => wk_fitI ci) xd_4cac29da ?_
        have hV6_ := cs_V_u1 (c := 18) (i := 0) (x := xt5_) hVt5_a (by omega) (by omega)
        have hM7_ := cs_M_u1 hMt5_ (by omega) (by omega) (show (xt5_).toInt = (tx_tk T n m (tx_tk T n m p).2.2.1).2.2.2.1 from hxt5_) (vl_q0 18)
        refine wk_aload_n xd_93654664 rfl ?_
        refine wk_getR xf_ed50740b xd_594d0247 ?_
        obtain ⟨xg8_, hCg8_, eg8_⟩ := cs_good hM7_
        refine wk_call (kd := 0) (i := 82) xd_f22e3d16 rfl (wk_cal (as := [.inr (.inr (some 2))]) (t := []) xl_46e8b0d2 rfl xn_59a494c6 xc_7b6444b6 rfl rfl xv_433dc8e2 rfl) (cm_C_mono (by omega) hCg8_) ?_
        exact wk_ireturn xd_2c4a65bf xr_e5351570 (aw_bit (by have := eg8_; omega) (by have := eg8_; omega)) ⟨_, _, rfl, hV6_, cs_P_n (ps_span_n (by omega) (ps_nums_ok et5_)) eg8_ hM7_ (ps_Q_span hQ)⟩
      · skip
        refine wk_putI xf_431a1ee6 (fun ci => wk_fitI ci) xd_4cac29da ?_
        have hV9_ := cs_V_u1 (c := 18) (i := 0) (x := xt5_) hVt5_a (by omega) (by omega)
        have hB10_ := cs_B_u1 (c := 18) (i := 0) (x := xt5_) hBt5_ (by omega)
        refine wk_aload_n xd_93654664 rfl ?_
        refine wk_getR xf_ed50740b xd_594d0247 ?_
        obtain ⟨xg11_, hCg11_, eg11_⟩ := cs_goodB hB10_
        refine wk_call (kd := 0) (i := 82) xd_f22e3d16 rfl (wk_cal (as := [.inr (.inr (some 2))]) (t := []) xl_46e8b0d2 rfl xn_59a494c6 xc_7b6444b6 rfl rfl xv_433dc8e2 rfl) (cm_C_mono (by omega) hCg11_) ?_
        exact wk_ireturn xd_2c4a65bf xr_e5351570 (aw_bit (by have := eg11_; omega) (by have := eg11_; omega)) ⟨_, _, rfl, hV9_, cs_P_e (ps_span_e (by omega) (ps_nums_no et5_)) eg11_ hB10_⟩
    · have h4_0 := aw_eq_f (a := (a0 : Int)) (b := (0 : Int)) (show ((w.1 32 2)).toInt = (a0 : Int) from hM.2.2.2.2.1) hb_z h4_0
      refine wk_aload_n xd_aa21707c rfl ?_
      refine wk_getR xf_ed50740b xd_f1137cc6 ?_
      refine wk_iconst xd_14a66533 ?_
      obtain ⟨wr12_, hCr12_, hVr12_, hBr12_, hFr12_⟩ := cs_ref (k := (Int32.ofInt 3)) (c := 3) hM (by decide) (by decide)
      have hVr12_a := cs_V_tr (cs_V_rf w) hVr12_
      refine wk_call (kd := 0) (i := 69) xd_f65b1dfb rfl (wk_cal (as := [.inr (.inr (some 2)), .inl (Int32.ofInt 3)]) (t := []) xl_65dff80a rfl xn_b5464d7d xc_49a83f99 rfl rfl xv_780065b9 rfl) (cm_C_mono (by omega) hCr12_) ?_
      exact wk_ireturn xd_190c70e7 xr_e5351570 wk_z0 ⟨_, _, rfl, hVr12_a, cs_P_e (ps_span_f (by omega)) (by decide) hBr12_⟩
  obtain ⟨o, hC, x, w', rfl, a⟩ := h
  exact ⟨x, w', hC, a⟩
theorem cl_wint {w : cm_W} {T : Nat → Int} {n m p : Nat} {f : Nat → Int} {g : Nat → Int64} {a0 b0 : Int} {h : Nat → Int} {nm : Nat → Nat} (hM : cs_M w T n m p f g a0 b0) (hQ : ps_Q id f g h nm) (hs : 1 ≤ (tx_tk T n m p).1 ∧ (tx_tk T n m p).1 ≤ 3)  : ∃ x w', cm_C 5 239 [.inr (.inr (some 32))] w (some (.inl x), w') ∧ cs_V w w' ∧ cs_P T n m (ps_wint T n m h nm a0 b0 p) x w' := by
  have h : ∃ o, cm_C (4 + 1) 239 [.inr (.inr (some 32))] w o ∧ (fun o : cm_O => ∃ x w', o = (some (.inl x), w') ∧ cs_V w w' ∧ cs_P T n m (ps_wint T n m h nm a0 b0 p) x w') o := by
    refine wk_entry (by rw [xm_86a648ad]; exact Nat.le_of_ble_eq_true rfl) ?_
    rw [show cm_ent 239 [.inr (.inr (some 32))] = [some (.inr (.inr (some 32)))] from by unfold cm_ent; rw [xm_86a648ad]; rfl]
    refine wk_aload_n xd_3b854e45 rfl ?_
    refine wk_getI xf_797d5632 xd_714f6477 ?_
    refine wk_if xd_3589170f (t := 16) rfl (fun h4_0 => ?_) (fun h4_0 => ?_)
    · have h4_0 := aw_eq_t (a := (b0 : Int)) (b := (0 : Int)) (show ((w.1 32 3)).toInt = (b0 : Int) from hM.2.2.2.2.2) hb_z h4_0
      refine wk_aload_n xd_632f9f60 rfl ?_
      refine wk_iconst xd_fb8aca44 ?_
      refine wk_putI xf_c21c484e (fun _ => aw_fb (.inr (by decide))) xd_33e2cd5e ?_
      have hV2_ := cs_V_u1 (c := 32) (i := 3) (x := (Int32.ofInt 1)) (cs_V_rf w) (by omega) (by omega)
      have hM3_ := cs_M_b hM (show ((Int32.ofInt 1)).toInt = 1 from by decide)
      refine wk_aload_n xd_4d88aee6 rfl ?_
      refine wk_getR xf_76239edf xd_5a250da3 ?_
      obtain ⟨wn4_, hCn4_, hVn4_, hMn4_⟩ := cs_next hM3_ hs
      have hVn4_a := cs_V_tr hV2_ hVn4_
      refine wk_call (kd := 0) (i := 72) xd_c85f3e32 rfl (wk_cal (as := [.inr (.inr (some 2))]) (t := []) xl_62dc9285 rfl xn_568f4fa7 xc_1d38a579 rfl rfl xv_65cfb41b rfl) (cm_C_mono (by omega) hCn4_) ?_
      refine wk_aload_n xd_d6420714 rfl ?_
      refine wk_getR xf_bd654dbe xd_a3ebaa8e ?_
      refine wk_aload_n xd_ba48f2fc rfl ?_
      refine wk_getR xf_76239edf xd_7e8bf88a ?_
      refine wk_iconst xd_3c5454dd ?_
      refine wk_sipush xd_bb615052 ?_
      obtain ⟨xt5_, wt5_, hCt5_, hVt5_, hRt5_⟩ := cs_num (a := (Int32.ofInt 0)) (b := ((Int16.ofInt 399).toInt32)) (lo := 0) (hi := 399) hMn4_ (by decide) (by decide)
      have hVt5_a := cs_V_tr hVn4_a hVt5_
      refine wk_call (kd := 0) (i := 75) xd_91ccffec rfl (wk_cal (as := [.inr (.inr (some 2)), .inl (Int32.ofInt 0), .inl ((Int16.ofInt 399).toInt32)]) (t := [.inr (.inr (some 18))]) xl_98dd3691 rfl xn_4f3a315b xc_18628866 rfl rfl xv_017ac5ff rfl) (cm_C_mono (by omega) hCt5_) ?_
      rcases hRt5_ with ⟨et5_, hxt5_, hMt5_⟩ | ⟨et5_, hxt5_, hBt5_⟩
      · skip
        refine wk_putI xf_88950de7 (fun ci => wk_fitI ci) xd_be863f24 ?_
        have hV6_ := cs_V_u1 (c := 18) (i := 1) (x := xt5_) hVt5_a (by omega) (by omega)
        have hM7_ := cs_M_u1 hMt5_ (by omega) (by omega) (show (xt5_).toInt = (tx_tk T n m (tx_tk T n m p).2.2.1).2.2.2.1 from hxt5_) (vl_q1 18)
        refine wk_aload_n xd_8b0c6418 rfl ?_
        refine wk_getR xf_bd654dbe xd_dbe5882e ?_
        refine wk_aload_n xd_e7e37345 rfl ?_
        refine wk_getR xf_76239edf xd_cc6b5823 ?_
        refine wk_iconst xd_c2aec697 ?_
        refine wk_sipush xd_85e9c8f6 ?_
        obtain ⟨xt8_, wt8_, hCt8_, hVt8_, hRt8_⟩ := cs_num (a := (Int32.ofInt 1)) (b := ((Int16.ofInt 200).toInt32)) (lo := 1) (hi := 200) hM7_ (by decide) (by decide)
        have hVt8_a := cs_V_tr hV6_ hVt8_
        refine wk_call (kd := 0) (i := 75) xd_a75d093c rfl (wk_cal (as := [.inr (.inr (some 2)), .inl (Int32.ofInt 1), .inl ((Int16.ofInt 200).toInt32)]) (t := [.inr (.inr (some 18))]) xl_98dd3691 rfl xn_4f3a315b xc_18628866 rfl rfl xv_017ac5ff rfl) (cm_C_mono (by omega) hCt8_) ?_
        rcases hRt8_ with ⟨et8_, hxt8_, hMt8_⟩ | ⟨et8_, hxt8_, hBt8_⟩
        · skip
          refine wk_putI xf_9facc4e8 (fun ci => wk_fitI ci) xd_c33a96a7 ?_
          have hV9_ := cs_V_u1 (c := 18) (i := 2) (x := xt8_) hVt8_a (by omega) (by omega)
          have hM10_ := cs_M_u1 hMt8_ (by omega) (by omega) (show (xt8_).toInt = (tx_tk T n m (tx_tk T n m (tx_tk T n m p).2.2.1).2.2.1).2.2.2.1 from hxt8_) (vl_q2 18)
          refine wk_aload_n xd_bfa17bfe rfl ?_
          refine wk_getR xf_76239edf xd_9080702f ?_
          obtain ⟨xg11_, hCg11_, eg11_⟩ := cs_good hM10_
          refine wk_call (kd := 0) (i := 82) xd_f7035e8a rfl (wk_cal (as := [.inr (.inr (some 2))]) (t := []) xl_b732b578 rfl xn_59a494c6 xc_7b6444b6 rfl rfl xv_433dc8e2 rfl) (cm_C_mono (by omega) hCg11_) ?_
          exact wk_ireturn xd_dc8fbed2 xr_6293de33 (aw_bit (by have := eg11_; omega) (by have := eg11_; omega)) ⟨_, _, rfl, hV9_, cs_P_n (ps_wint_n (by omega) ((ps_nums_ok et5_).trans (ps_nums_ok et8_))) eg11_ hM10_ (ps_Q_wint hQ)⟩
        · skip
          refine wk_putI xf_9facc4e8 (fun ci => wk_fitI ci) xd_c33a96a7 ?_
          have hV12_ := cs_V_u1 (c := 18) (i := 2) (x := xt8_) hVt8_a (by omega) (by omega)
          have hB13_ := cs_B_u1 (c := 18) (i := 2) (x := xt8_) hBt8_ (by omega)
          refine wk_aload_n xd_bfa17bfe rfl ?_
          refine wk_getR xf_76239edf xd_9080702f ?_
          obtain ⟨xg14_, hCg14_, eg14_⟩ := cs_goodB hB13_
          refine wk_call (kd := 0) (i := 82) xd_f7035e8a rfl (wk_cal (as := [.inr (.inr (some 2))]) (t := []) xl_b732b578 rfl xn_59a494c6 xc_7b6444b6 rfl rfl xv_433dc8e2 rfl) (cm_C_mono (by omega) hCg14_) ?_
          exact wk_ireturn xd_dc8fbed2 xr_6293de33 (aw_bit (by have := eg14_; omega) (by have := eg14_; omega)) ⟨_, _, rfl, hV12_, cs_P_e (ps_wint_e (by omega) ((ps_nums_ok et5_).trans (ps_nums_no et8_))) eg14_ hB13_⟩
      · skip
        refine wk_putI xf_88950de7 (fun ci => wk_fitI ci) xd_be863f24 ?_
        have hV15_ := cs_V_u1 (c := 18) (i := 1) (x := xt5_) hVt5_a (by omega) (by omega)
        have hB16_ := cs_B_u1 (c := 18) (i := 1) (x := xt5_) hBt5_ (by omega)
        refine wk_aload_n xd_8b0c6418 rfl ?_
        refine wk_getR xf_bd654dbe xd_dbe5882e ?_
        refine wk_aload_n xd_e7e37345 rfl ?_
        refine wk_getR xf_76239edf xd_cc6b5823 ?_
        refine wk_iconst xd_c2aec697 ?_
        refine wk_sipush xd_85e9c8f6 ?_
        refine wk_call (kd := 0) (i := 75) xd_a75d093c rfl (wk_cal (as := [.inr (.inr (some 2)), .inl (Int32.ofInt 1), .inl ((Int16.ofInt 200).toInt32)]) (t := [.inr (.inr (some 18))]) xl_98dd3691 rfl xn_4f3a315b xc_18628866 rfl rfl xv_017ac5ff rfl) (cm_C_mono (by omega) (cs_numB (a := (Int32.ofInt 1)) (b := ((Int16.ofInt 200).toInt32)) hB16_)) ?_
        refine wk_putI xf_9facc4e8 (fun ci => wk_fitI ci) xd_c33a96a7 ?_
        have hV17_ := cs_V_u1 (c := 18) (i := 2) (x := (Int32.ofInt (-1))) hV15_ (by omega) (by omega)
        have hB18_ := cs_B_u1 (c := 18) (i := 2) (x := (Int32.ofInt (-1))) hB16_ (by omega)
        refine wk_aload_n xd_bfa17bfe rfl ?_
        refine wk_getR xf_76239edf xd_9080702f ?_
        obtain ⟨xg19_, hCg19_, eg19_⟩ := cs_goodB hB18_
        refine wk_call (kd := 0) (i := 82) xd_f7035e8a rfl (wk_cal (as := [.inr (.inr (some 2))]) (t := []) xl_b732b578 rfl xn_59a494c6 xc_7b6444b6 rfl rfl xv_433dc8e2 rfl) (cm_C_mono (by omega) hCg19_) ?_
        exact wk_ireturn xd_dc8fbed2 xr_6293de33 (aw_bit (by have := eg19_; omega) (by have := eg19_; omega)) ⟨_, _, rfl, hV17_, cs_P_e (ps_wint_e (by omega) (ps_nums_no et5_)) eg19_ hB18_⟩
    · have h4_0 := aw_eq_f (a := (b0 : Int)) (b := (0 : Int)) (show ((w.1 32 3)).toInt = (b0 : Int) from hM.2.2.2.2.2) hb_z h4_0
      refine wk_aload_n xd_4d3cd6eb rfl ?_
      refine wk_getR xf_76239edf xd_9f9f6787 ?_
      refine wk_iconst xd_f3bbc3a4 ?_
      obtain ⟨wr20_, hCr20_, hVr20_, hBr20_, hFr20_⟩ := cs_ref (k := (Int32.ofInt 3)) (c := 3) hM (by decide) (by decide)
      have hVr20_a := cs_V_tr (cs_V_rf w) hVr20_
      refine wk_call (kd := 0) (i := 69) xd_d2d94ccd rfl (wk_cal (as := [.inr (.inr (some 2)), .inl (Int32.ofInt 3)]) (t := []) xl_6b3810db rfl xn_b5464d7d xc_49a83f99 rfl rfl xv_780065b9 rfl) (cm_C_mono (by omega) hCr20_) ?_
      exact wk_ireturn xd_bc87e0e9 xr_6293de33 wk_z0 ⟨_, _, rfl, hVr20_a, cs_P_e (ps_wint_f (by omega)) (by decide) hBr20_⟩
  obtain ⟨o, hC, x, w', rfl, a⟩ := h
  exact ⟨x, w', hC, a⟩
theorem cl_debt {w : cm_W} {T : Nat → Int} {n m p : Nat} {f : Nat → Int} {g : Nat → Int64} {a0 b0 : Int} {h : Nat → Int} {nm : Nat → Nat} (hM : cs_M w T n m p f g a0 b0) (hQ : ps_Q id f g h nm) (hs : 1 ≤ (tx_tk T n m p).1 ∧ (tx_tk T n m p).1 ≤ 3)  : ∃ x w', cm_C 5 233 [.inr (.inr (some 32))] w (some (.inl x), w') ∧ cs_V w w' ∧ cs_P T n m (ps_debt T n m h nm a0 b0 p) x w' := by
  have hbd := hQ.2.2
  unfold ps_bd at hbd
  have hcn := vl_cnt (cs_R hM hQ)
  have h : ∃ o, cm_C (4 + 1) 233 [.inr (.inr (some 32))] w o ∧ (fun o : cm_O => ∃ x w', o = (some (.inl x), w') ∧ cs_V w w' ∧ cs_P T n m (ps_debt T n m h nm a0 b0 p) x w') o := by
    refine wk_entry (by rw [xm_bc7ca483]; exact Nat.le_of_ble_eq_true rfl) ?_
    rw [show cm_ent 233 [.inr (.inr (some 32))] = [some (.inr (.inr (some 32))), none, none, none] from by unfold cm_ent; rw [xm_bc7ca483]; rfl]
    refine wk_aload_n xd_7be62896 rfl ?_
    refine wk_getR xf_0108f854 xd_018fc0ba ?_
    refine wk_getI xf_945d4af7 xd_fc5b6396 ?_
    refine wk_istore_n xd_b51ec6c8 (by rw [xm_bc7ca483]; rfl) rfl ?_
    refine wk_iload_n xd_1c3c916d rfl ?_
    refine wk_bipush xd_66347220 ?_
    refine wk_icmp xd_4323ae4e (t := 23) rfl (fun h11_0 => ?_) (fun h11_0 => ?_)
    · have h11_0 := aw_lt_t (a := (((h 3).toNat : Int) : Int)) (b := (10 : Int)) (show ((w.1 18 6)).toInt = (((h 3).toNat : Int) : Int) from hcn.2.2.2) (show (((Int8.ofInt 10).toInt32)).toInt = 10 from by decide) h11_0
      refine wk_aload_n xd_bf849d07 rfl ?_
      refine wk_getR xf_9b0c0e10 xd_e4dc4d21 ?_
      obtain ⟨wn2_, hCn2_, hVn2_, hMn2_⟩ := cs_next hM hs
      have hVn2_a := cs_V_tr (cs_V_rf w) hVn2_
      refine wk_call (kd := 0) (i := 72) xd_06f9d5bf rfl (wk_cal (as := [.inr (.inr (some 2))]) (t := []) xl_082c05af rfl xn_568f4fa7 xc_1d38a579 rfl rfl xv_65cfb41b rfl) (cm_C_mono (by omega) hCn2_) ?_
      refine wk_aload_n xd_4844c11d rfl ?_
      refine wk_getR xf_9b0c0e10 xd_a9742657 ?_
      refine wk_aload_n xd_4818608e rfl ?_
      refine wk_getR xf_0108f854 xd_fb93a2bf ?_
      refine wk_iconst xd_b7854e8e ?_
      obtain ⟨xu, wu, hCu, hVu, hRu⟩ := cs_take (z := (Int32.ofInt 0)) (by decide) hMn2_ hQ
      have hVua := cs_V_tr hVn2_a hVu
      refine wk_call (kd := 0) (i := 143) xd_d87f9fd3 rfl (wk_cal (as := [.inr (.inr (some 2)), .inr (.inr (some 18)), .inl (Int32.ofInt 0)]) (t := []) xl_1f6129d4 rfl xn_725a18eb xc_be714b02 rfl rfl xv_0f9d2d2e rfl) (cm_C_mono (by omega) hCu) ?_
      rcases hRu with ⟨u, eu, hxu, hMu⟩ | ⟨ku, qu, eu, hxu, hBu, hFu⟩
      · have hu := ps_look_b eu
        refine wk_istore_n xd_ae944389 (by rw [xm_bc7ca483]; rfl) rfl ?_
        refine wk_aload_n xd_0fb9cf57 rfl ?_
        refine wk_getR xf_9b0c0e10 xd_8f072187 ?_
        refine wk_aload_n xd_0fe56ec4 rfl ?_
        refine wk_getR xf_0108f854 xd_516d90db ?_
        refine wk_iconst xd_f4247e34 ?_
        obtain ⟨xv, wv, hCv, hVv, hRv⟩ := cs_look18_0 (z := (Int32.ofInt 0)) (by decide) hMu (cs_R hMu hQ)
        have hVva := cs_V_tr hVua hVv
        refine wk_call (kd := 0) (i := 133) xd_e822c7af rfl (wk_cal (as := [.inr (.inr (some 2)), .inr (.inr (some 18)), .inl (Int32.ofInt 0)]) (t := []) xl_40530700 rfl xn_cd6aa68a xc_ec32c43f rfl rfl xv_5ef21940 rfl) (cm_C_mono (by omega) hCv) ?_
        rcases hRv with ⟨v, ev, hxv, rfl⟩ | ⟨kv, qv, ev, hxv, hBv, hFv⟩
        · have hv := ps_look_b ev
          refine wk_istore_n xd_0767cd40 (by rw [xm_bc7ca483]; rfl) rfl ?_
          refine wk_iload_n xd_3570613a rfl ?_
          refine wk_iconst xd_20084dfe ?_
          refine wk_icmp xd_c8a0cfeb (t := 83) rfl (fun h58_2 => ?_) (fun h58_2 => ?_)
          · have h58_2 := aw_eq_t (a := (u : Int)) (b := ((-1) : Int)) hxu (show ((Int32.ofInt (-1))).toInt = (-1) from by decide) h58_2
            exfalso
            omega
          · have h58_2 := aw_eq_f (a := (u : Int)) (b := ((-1) : Int)) hxu (show ((Int32.ofInt (-1))).toInt = (-1) from by decide) h58_2
            refine wk_iload_n xd_26b7790c rfl ?_
            refine wk_iconst xd_8c697af3 ?_
            refine wk_icmp xd_aa39c438 (t := 83) rfl (fun h63_3 => ?_) (fun h63_3 => ?_)
            · have h63_3 := aw_eq_t (a := (v : Int)) (b := ((-1) : Int)) hxv (show ((Int32.ofInt (-1))).toInt = (-1) from by decide) h63_3
              exfalso
              omega
            · have h63_3 := aw_eq_f (a := (v : Int)) (b := ((-1) : Int)) hxv (show ((Int32.ofInt (-1))).toInt = (-1) from by decide) h63_3
              refine wk_iload_n xd_500ee1a2 rfl ?_
              refine wk_iload_n xd_f61d22c6 rfl ?_
              refine wk_icmp xd_eb3cd629 (t := 83) rfl (fun h68_4 => ?_) (fun h68_4 => ?_)
              · have h68_4 := aw_eq_t (a := (v : Int)) (b := (u : Int)) hxv hxu h68_4
                have hdb : v = u ∨ ps_db h u v := .inl (by omega)
                refine wk_aload_n xd_b4b26db6 rfl ?_
                refine wk_getR xf_9b0c0e10 xd_58b1f8cb ?_
                refine wk_iconst xd_5ae35605 ?_
                obtain ⟨wr6_, hCr6_, hVr6_, hBr6_, hFr6_⟩ := cs_ref (k := (Int32.ofInt 3)) (c := 3) hMu (by decide) (by decide)
                have hVr6_a := cs_V_tr hVva hVr6_
                refine wk_call (kd := 0) (i := 69) xd_5dd11718 rfl (wk_cal (as := [.inr (.inr (some 2)), .inl (Int32.ofInt 3)]) (t := []) xl_01c887f1 rfl xn_b5464d7d xc_49a83f99 rfl rfl xv_780065b9 rfl) (cm_C_mono (by omega) hCr6_) ?_
                exact wk_ireturn xd_ab5077b8 xr_50bf016a wk_z0 ⟨_, _, rfl, hVr6_a, cs_P_e (ps_debt_y (by omega) eu ev hdb) (by decide) hBr6_⟩
              · have h68_4 := aw_eq_f (a := (v : Int)) (b := (u : Int)) hxv hxu h68_4
                refine wk_aload_n xd_ba31b596 rfl ?_
                refine wk_getR xf_0108f854 xd_1f57c8c9 ?_
                refine wk_iload_n xd_9aae9408 rfl ?_
                refine wk_iload_n xd_d12b8485 rfl ?_
                obtain ⟨xd, hCd, hxd⟩ := hd_ok (w := wv) (h := h) hxu hxv (vl_cnt (cs_R hMu hQ)).2.2.2 (by omega) (cs_debts hMu hQ)
                refine wk_call (kd := 0) (i := 146) xd_307a3ee7 rfl (wk_cal (as := [.inr (.inr (some 18)), .inl xu, .inl xv]) (t := []) xl_e4e9fa26 rfl xn_df4908a0 xc_b6caf77f rfl rfl xv_3297bd5c rfl) (cm_C_mono (by omega) hCd) ?_
                refine wk_if xd_a4842efc (t := 92) rfl (fun h80_6 => ?_) (fun h80_6 => ?_)
                · have h80_6 := aw_eq_t (a := ((xd).toInt : Int)) (b := (0 : Int)) rfl hb_z h80_6
                  have hdb : ¬ (v = u ∨ ps_db h u v) := fun z => z.elim (fun z => by omega) (fun z => hxd.elim (fun y => by omega) (fun y => y.2 z))
                  clear hxd
                  refine wk_aload_n xd_aee4e245 rfl ?_
                  refine wk_getR xf_9b0c0e10 xd_cc225fb2 ?_
                  obtain ⟨wn8_, hCn8_, hVn8_, hMn8_⟩ := cs_next hMu hv.2.2
                  have hVn8_a := cs_V_tr hVva hVn8_
                  refine wk_call (kd := 0) (i := 72) xd_5e8e494c rfl (wk_cal (as := [.inr (.inr (some 2))]) (t := []) xl_082c05af rfl xn_568f4fa7 xc_1d38a579 rfl rfl xv_65cfb41b rfl) (cm_C_mono (by omega) hCn8_) ?_
                  refine wk_aload_n xd_d8b8985e rfl ?_
                  refine wk_getR xf_0108f854 xd_d0eedd03 ?_
                  refine wk_getR xf_4bd31fbf xd_bab507b7 ?_
                  refine wk_iload_n xd_70cc3e8e rfl ?_
                  refine wk_iload_n xd_ac1fae8a rfl ?_
                  refine aw_iastore (i := ((h 3).toNat)) xf_dd69569e (show ((w.1 18 6)).toInt = (((h 3).toNat : Int) : Int) from hcn.2.2.2) (by omega) (by omega) xd_544cf195 ?_
                  have hV9_ := cs_V_u1 (c := 28) (i := ((h 3).toNat)) (x := xu) hVn8_a (by omega) (by omega)
                  have hM10_ := cs_M_u1 hMn8_ (by omega) (by omega) (show (xu).toInt = u from hxu) (vl_r10 18 (i := ((h 3).toNat)) (by omega))
                  refine wk_aload_n xd_61af1fdb rfl ?_
                  refine wk_getR xf_0108f854 xd_37f37b94 ?_
                  refine wk_getR xf_67063444 xd_93996626 ?_
                  refine wk_iload_n xd_f1e95ba9 rfl ?_
                  refine wk_iload_n xd_105ae21d rfl ?_
                  refine aw_iastore (i := ((h 3).toNat)) xf_4066b7e8 (show ((w.1 18 6)).toInt = (((h 3).toNat : Int) : Int) from hcn.2.2.2) (by omega) (by omega) xd_43649555 ?_
                  have hV11_ := cs_V_u1 (c := 29) (i := ((h 3).toNat)) (x := xv) hV9_ (by omega) (by omega)
                  have hM12_ := cs_M_u1 hM10_ (by omega) (by omega) (show (xv).toInt = v from hxv) (vl_r11 18 (i := ((h 3).toNat)) (by omega))
                  refine wk_aload_n xd_e08a7afc rfl ?_
                  refine wk_getR xf_0108f854 xd_c5a4966c ?_
                  refine wk_getR xf_2031a748 xd_e8edc495 ?_
                  refine wk_iload_n xd_a9f7f281 rfl ?_
                  refine wk_aload_n xd_55e7e288 rfl ?_
                  refine wk_getR xf_9b0c0e10 xd_4b3c8c51 ?_
                  refine wk_iconst xd_ce17007a ?_
                  refine wk_sipush xd_95c873d7 ?_
                  obtain ⟨xt13_, wt13_, hCt13_, hVt13_, hRt13_⟩ := cs_num (a := (Int32.ofInt 1)) (b := ((Int16.ofInt 250).toInt32)) (lo := 1) (hi := 250) hM12_ (by decide) (by decide)
                  have hVt13_a := cs_V_tr hV11_ hVt13_
                  refine wk_call (kd := 0) (i := 75) xd_d0062280 rfl (wk_cal (as := [.inr (.inr (some 2)), .inl (Int32.ofInt 1), .inl ((Int16.ofInt 250).toInt32)]) (t := [.inl (w.1 18 6), .inr (.inr (some 30))]) xl_430c0fd0 rfl xn_4f3a315b xc_18628866 rfl rfl xv_017ac5ff rfl) (cm_C_mono (by omega) hCt13_) ?_
                  rcases hRt13_ with ⟨et13_, hxt13_, hMt13_⟩ | ⟨et13_, hxt13_, hBt13_⟩
                  · skip
                    refine aw_iastore (i := ((h 3).toNat)) xf_57cb9340 (show ((w.1 18 6)).toInt = (((h 3).toNat : Int) : Int) from hcn.2.2.2) (by omega) (by omega) xd_6d345cd5 ?_
                    have hV14_ := cs_V_u1 (c := 30) (i := ((h 3).toNat)) (x := xt13_) hVt13_a (by omega) (by omega)
                    have hM15_ := cs_M_u1 hMt13_ (by omega) (by omega) (show (xt13_).toInt = (tx_tk T n m (tx_tk T n m (tx_tk T n m (tx_tk T n m p).2.2.1).2.2.1).2.2.1).2.2.2.1 from hxt13_) (vl_r12 18 (i := ((h 3).toNat)) (by omega))
                    refine wk_aload_n xd_39b1b6f3 rfl ?_
                    refine wk_getR xf_0108f854 xd_fa7a4bdd ?_
                    refine wk_getR xf_0c016e06 xd_d6e40e83 ?_
                    refine wk_iload_n xd_19caa0d1 rfl ?_
                    refine wk_aload_n xd_e5dab0d8 rfl ?_
                    refine wk_getR xf_9b0c0e10 xd_20e7e0f7 ?_
                    refine wk_iconst xd_1ebd5bb0 ?_
                    refine wk_sipush xd_b529a7e6 ?_
                    obtain ⟨xt16_, wt16_, hCt16_, hVt16_, hRt16_⟩ := cs_num (a := (Int32.ofInt 0)) (b := ((Int16.ofInt 199).toInt32)) (lo := 0) (hi := 199) hM15_ (by decide) (by decide)
                    have hVt16_a := cs_V_tr hV14_ hVt16_
                    refine wk_call (kd := 0) (i := 75) xd_f6565066 rfl (wk_cal (as := [.inr (.inr (some 2)), .inl (Int32.ofInt 0), .inl ((Int16.ofInt 199).toInt32)]) (t := [.inl (w.1 18 6), .inr (.inr (some 31))]) xl_430c0fd0 rfl xn_4f3a315b xc_18628866 rfl rfl xv_017ac5ff rfl) (cm_C_mono (by omega) hCt16_) ?_
                    rcases hRt16_ with ⟨et16_, hxt16_, hMt16_⟩ | ⟨et16_, hxt16_, hBt16_⟩
                    · skip
                      refine aw_iastore (i := ((h 3).toNat)) xf_cac47236 (show ((w.1 18 6)).toInt = (((h 3).toNat : Int) : Int) from hcn.2.2.2) (by omega) (by omega) xd_1fc50655 ?_
                      have hV17_ := cs_V_u1 (c := 31) (i := ((h 3).toNat)) (x := xt16_) hVt16_a (by omega) (by omega)
                      have hM18_ := cs_M_u1 hMt16_ (by omega) (by omega) (show (xt16_).toInt = (tx_tk T n m (tx_tk T n m (tx_tk T n m (tx_tk T n m (tx_tk T n m p).2.2.1).2.2.1).2.2.1).2.2.1).2.2.2.1 from hxt16_) (vl_r13 18 (i := ((h 3).toNat)))
                      refine wk_aload_n xd_898ce4a3 rfl ?_
                      refine wk_getR xf_0108f854 xd_ef3000b2 ?_
                      refine wk_iload_n xd_5bde2799 rfl ?_
                      refine wk_iconst xd_1eb1bcfd ?_
                      refine aw_iadd (a := (((h 3).toNat : Int) : Int)) (b := (1 : Int)) (e := (((h 3).toNat : Int) + 1 : Int)) xd_8727be56 (show ((w.1 18 6)).toInt = (((h 3).toNat : Int) : Int) from hcn.2.2.2) (show ((Int32.ofInt 1)).toInt = 1 from by decide) (by omega) (by omega) (by omega) (fun v19_ p19_ => ?_)
                      refine wk_putI xf_da2e02bd (fun ci => wk_fitI ci) xd_5f85e038 ?_
                      have hV20_ := cs_V_u1 (c := 18) (i := 6) (x := v19_) hV17_ (by omega) (by omega)
                      have hM21_ := cs_M_u1 hM18_ (by omega) (by omega) (show (v19_).toInt = (h 3 + 1) from (by have e9 := p19_; omega)) (vl_q6 18)
                      refine wk_aload_n xd_d1924d8b rfl ?_
                      refine wk_getR xf_9b0c0e10 xd_c7076a1a ?_
                      obtain ⟨xg22_, hCg22_, eg22_⟩ := cs_good hM21_
                      refine wk_call (kd := 0) (i := 82) xd_21ada531 rfl (wk_cal (as := [.inr (.inr (some 2))]) (t := []) xl_6ce38c39 rfl xn_59a494c6 xc_7b6444b6 rfl rfl xv_433dc8e2 rfl) (cm_C_mono (by omega) hCg22_) ?_
                      exact wk_ireturn xd_456730e4 xr_50bf016a (aw_bit (by have := eg22_; omega) (by have := eg22_; omega)) ⟨_, _, rfl, hV20_, cs_P_n ((ps_debt_n (by omega) eu ev hdb).trans (congrArg (ps_end _ _ _ _ _) ((ps_nums_ok et13_).trans (ps_nums_ok et16_)))) eg22_ hM21_ (ps_Q_debt hQ (by omega))⟩
                    · skip
                      refine aw_iastore (i := ((h 3).toNat)) xf_cac47236 (show ((w.1 18 6)).toInt = (((h 3).toNat : Int) : Int) from hcn.2.2.2) (by omega) (by omega) xd_1fc50655 ?_
                      have hV23_ := cs_V_u1 (c := 31) (i := ((h 3).toNat)) (x := xt16_) hVt16_a (by omega) (by omega)
                      have hB24_ := cs_B_u1 (c := 31) (i := ((h 3).toNat)) (x := xt16_) hBt16_ (by omega)
                      refine wk_aload_n xd_898ce4a3 rfl ?_
                      refine wk_getR xf_0108f854 xd_ef3000b2 ?_
                      refine wk_iload_n xd_5bde2799 rfl ?_
                      refine wk_iconst xd_1eb1bcfd ?_
                      refine aw_iadd (a := (((h 3).toNat : Int) : Int)) (b := (1 : Int)) (e := (((h 3).toNat : Int) + 1 : Int)) xd_8727be56 (show ((w.1 18 6)).toInt = (((h 3).toNat : Int) : Int) from hcn.2.2.2) (show ((Int32.ofInt 1)).toInt = 1 from by decide) (by omega) (by omega) (by omega) (fun v25_ p25_ => ?_)
                      refine wk_putI xf_da2e02bd (fun ci => wk_fitI ci) xd_5f85e038 ?_
                      have hV26_ := cs_V_u1 (c := 18) (i := 6) (x := v25_) hV23_ (by omega) (by omega)
                      have hB27_ := cs_B_u1 (c := 18) (i := 6) (x := v25_) hB24_ (by omega)
                      refine wk_aload_n xd_d1924d8b rfl ?_
                      refine wk_getR xf_9b0c0e10 xd_c7076a1a ?_
                      obtain ⟨xg28_, hCg28_, eg28_⟩ := cs_goodB hB27_
                      refine wk_call (kd := 0) (i := 82) xd_21ada531 rfl (wk_cal (as := [.inr (.inr (some 2))]) (t := []) xl_6ce38c39 rfl xn_59a494c6 xc_7b6444b6 rfl rfl xv_433dc8e2 rfl) (cm_C_mono (by omega) hCg28_) ?_
                      exact wk_ireturn xd_456730e4 xr_50bf016a (aw_bit (by have := eg28_; omega) (by have := eg28_; omega)) ⟨_, _, rfl, hV26_, cs_P_e ((ps_debt_n (by omega) eu ev hdb).trans (congrArg (ps_end _ _ _ _ _) ((ps_nums_ok et13_).trans (ps_nums_no et16_)))) eg28_ hB27_⟩
                  · skip
                    refine aw_iastore (i := ((h 3).toNat)) xf_57cb9340 (show ((w.1 18 6)).toInt = (((h 3).toNat : Int) : Int) from hcn.2.2.2) (by omega) (by omega) xd_6d345cd5 ?_
                    have hV29_ := cs_V_u1 (c := 30) (i := ((h 3).toNat)) (x := xt13_) hVt13_a (by omega) (by omega)
                    have hB30_ := cs_B_u1 (c := 30) (i := ((h 3).toNat)) (x := xt13_) hBt13_ (by omega)
                    refine wk_aload_n xd_39b1b6f3 rfl ?_
                    refine wk_getR xf_0108f854 xd_fa7a4bdd ?_
                    refine wk_getR xf_0c016e06 xd_d6e40e83 ?_
                    refine wk_iload_n xd_19caa0d1 rfl ?_
                    refine wk_aload_n xd_e5dab0d8 rfl ?_
                    refine wk_getR xf_9b0c0e10 xd_20e7e0f7 ?_
                    refine wk_iconst xd_1ebd5bb0 ?_
                    refine wk_sipush xd_b529a7e6 ?_
                    refine wk_call (kd := 0) (i := 75) xd_f6565066 rfl (wk_cal (as := [.inr (.inr (some 2)), .inl (Int32.ofInt 0), .inl ((Int16.ofInt 199).toInt32)]) (t := [.inl (w.1 18 6), .inr (.inr (some 31))]) xl_430c0fd0 rfl xn_4f3a315b xc_18628866 rfl rfl xv_017ac5ff rfl) (cm_C_mono (by omega) (cs_numB (a := (Int32.ofInt 0)) (b := ((Int16.ofInt 199).toInt32)) hB30_)) ?_
                    refine aw_iastore (i := ((h 3).toNat)) xf_cac47236 (show ((w.1 18 6)).toInt = (((h 3).toNat : Int) : Int) from hcn.2.2.2) (by omega) (by omega) xd_1fc50655 ?_
                    have hV31_ := cs_V_u1 (c := 31) (i := ((h 3).toNat)) (x := (Int32.ofInt (-1))) hV29_ (by omega) (by omega)
                    have hB32_ := cs_B_u1 (c := 31) (i := ((h 3).toNat)) (x := (Int32.ofInt (-1))) hB30_ (by omega)
                    refine wk_aload_n xd_898ce4a3 rfl ?_
                    refine wk_getR xf_0108f854 xd_ef3000b2 ?_
                    refine wk_iload_n xd_5bde2799 rfl ?_
                    refine wk_iconst xd_1eb1bcfd ?_
                    refine aw_iadd (a := (((h 3).toNat : Int) : Int)) (b := (1 : Int)) (e := (((h 3).toNat : Int) + 1 : Int)) xd_8727be56 (show ((w.1 18 6)).toInt = (((h 3).toNat : Int) : Int) from hcn.2.2.2) (show ((Int32.ofInt 1)).toInt = 1 from by decide) (by omega) (by omega) (by omega) (fun v33_ p33_ => ?_)
                    refine wk_putI xf_da2e02bd (fun ci => wk_fitI ci) xd_5f85e038 ?_
                    have hV34_ := cs_V_u1 (c := 18) (i := 6) (x := v33_) hV31_ (by omega) (by omega)
                    have hB35_ := cs_B_u1 (c := 18) (i := 6) (x := v33_) hB32_ (by omega)
                    refine wk_aload_n xd_d1924d8b rfl ?_
                    refine wk_getR xf_9b0c0e10 xd_c7076a1a ?_
                    obtain ⟨xg36_, hCg36_, eg36_⟩ := cs_goodB hB35_
                    refine wk_call (kd := 0) (i := 82) xd_21ada531 rfl (wk_cal (as := [.inr (.inr (some 2))]) (t := []) xl_6ce38c39 rfl xn_59a494c6 xc_7b6444b6 rfl rfl xv_433dc8e2 rfl) (cm_C_mono (by omega) hCg36_) ?_
                    exact wk_ireturn xd_456730e4 xr_50bf016a (aw_bit (by have := eg36_; omega) (by have := eg36_; omega)) ⟨_, _, rfl, hV34_, cs_P_e ((ps_debt_n (by omega) eu ev hdb).trans (congrArg (ps_end _ _ _ _ _) (ps_nums_no et13_))) eg36_ hB35_⟩
                · have h80_6 := aw_eq_f (a := ((xd).toInt : Int)) (b := (0 : Int)) rfl hb_z h80_6
                  have hdb : v = u ∨ ps_db h u v := .inr (hxd.elim (fun z => z.2) (fun z => absurd z.1 (by omega)))
                  clear hxd
                  refine wk_aload_n xd_b4b26db6 rfl ?_
                  refine wk_getR xf_9b0c0e10 xd_58b1f8cb ?_
                  refine wk_iconst xd_5ae35605 ?_
                  obtain ⟨wr37_, hCr37_, hVr37_, hBr37_, hFr37_⟩ := cs_ref (k := (Int32.ofInt 3)) (c := 3) hMu (by decide) (by decide)
                  have hVr37_a := cs_V_tr hVva hVr37_
                  refine wk_call (kd := 0) (i := 69) xd_5dd11718 rfl (wk_cal (as := [.inr (.inr (some 2)), .inl (Int32.ofInt 3)]) (t := []) xl_01c887f1 rfl xn_b5464d7d xc_49a83f99 rfl rfl xv_780065b9 rfl) (cm_C_mono (by omega) hCr37_) ?_
                  exact wk_ireturn xd_ab5077b8 xr_50bf016a wk_z0 ⟨_, _, rfl, hVr37_a, cs_P_e (ps_debt_y (by omega) eu ev hdb) (by decide) hBr37_⟩
        · skip
          refine wk_istore_n xd_0767cd40 (by rw [xm_bc7ca483]; rfl) rfl ?_
          refine wk_iload_n xd_3570613a rfl ?_
          refine wk_iconst xd_20084dfe ?_
          refine wk_icmp xd_c8a0cfeb (t := 83) rfl (fun h58_37 => ?_) (fun h58_37 => ?_)
          · have h58_37 := aw_eq_t (a := (u : Int)) (b := ((-1) : Int)) hxu (show ((Int32.ofInt (-1))).toInt = (-1) from by decide) h58_37
            exfalso
            omega
          · have h58_37 := aw_eq_f (a := (u : Int)) (b := ((-1) : Int)) hxu (show ((Int32.ofInt (-1))).toInt = (-1) from by decide) h58_37
            refine wk_iload_n xd_26b7790c rfl ?_
            refine wk_iconst xd_8c697af3 ?_
            refine wk_icmp xd_aa39c438 (t := 83) rfl (fun _ => ?_) (fun h => absurd (aw_eq_f hxv (show ((Int32.ofInt (-1))).toInt = (-1) from by decide) h) (by omega))
            refine wk_aload_n xd_b4b26db6 rfl ?_
            refine wk_getR xf_9b0c0e10 xd_58b1f8cb ?_
            refine wk_iconst xd_5ae35605 ?_
            refine wk_call (kd := 0) (i := 69) xd_5dd11718 rfl (wk_cal (as := [.inr (.inr (some 2)), .inl (Int32.ofInt 3)]) (t := []) xl_01c887f1 rfl xn_b5464d7d xc_49a83f99 rfl rfl xv_780065b9 rfl) (cm_C_mono (by omega) (cs_refB (k := (Int32.ofInt 3)) hBv)) ?_
            exact wk_ireturn xd_ab5077b8 xr_50bf016a wk_z0 ⟨_, _, rfl, hVva, cs_P_e (ps_debt_x (by omega) eu ev) (by decide) hBv⟩
      · skip
        refine wk_istore_n xd_ae944389 (by rw [xm_bc7ca483]; rfl) rfl ?_
        refine wk_aload_n xd_0fb9cf57 rfl ?_
        refine wk_getR xf_9b0c0e10 xd_8f072187 ?_
        refine wk_aload_n xd_0fe56ec4 rfl ?_
        refine wk_getR xf_0108f854 xd_516d90db ?_
        refine wk_iconst xd_f4247e34 ?_
        obtain ⟨xv, hCv, hxv⟩ := cs_look18_0B (z := (Int32.ofInt 0)) (by decide) hBu (cs_F_C hFu hMn2_.1.2.1) (cs_F_R (by omega) hFu (cs_R hMn2_ hQ))
        refine wk_call (kd := 0) (i := 133) xd_e822c7af rfl (wk_cal (as := [.inr (.inr (some 2)), .inr (.inr (some 18)), .inl (Int32.ofInt 0)]) (t := []) xl_40530700 rfl xn_cd6aa68a xc_ec32c43f rfl rfl xv_5ef21940 rfl) (cm_C_mono (by omega) hCv) ?_
        refine wk_istore_n xd_0767cd40 (by rw [xm_bc7ca483]; rfl) rfl ?_
        refine wk_iload_n xd_3570613a rfl ?_
        refine wk_iconst xd_20084dfe ?_
        refine wk_icmp xd_c8a0cfeb (t := 83) rfl (fun _ => ?_) (fun h => absurd (aw_eq_f hxu (show ((Int32.ofInt (-1))).toInt = (-1) from by decide) h) (by omega))
        refine wk_aload_n xd_b4b26db6 rfl ?_
        refine wk_getR xf_9b0c0e10 xd_58b1f8cb ?_
        refine wk_iconst xd_5ae35605 ?_
        refine wk_call (kd := 0) (i := 69) xd_5dd11718 rfl (wk_cal (as := [.inr (.inr (some 2)), .inl (Int32.ofInt 3)]) (t := []) xl_01c887f1 rfl xn_b5464d7d xc_49a83f99 rfl rfl xv_780065b9 rfl) (cm_C_mono (by omega) (cs_refB (k := (Int32.ofInt 3)) hBu)) ?_
        exact wk_ireturn xd_ab5077b8 xr_50bf016a wk_z0 ⟨_, _, rfl, hVua, cs_P_e (ps_debt_e (by omega) eu) (by decide) hBu⟩
    · have h11_0 := aw_lt_f (a := (((h 3).toNat : Int) : Int)) (b := (10 : Int)) (show ((w.1 18 6)).toInt = (((h 3).toNat : Int) : Int) from hcn.2.2.2) (show (((Int8.ofInt 10).toInt32)).toInt = 10 from by decide) h11_0
      refine wk_aload_n xd_9123ac81 rfl ?_
      refine wk_getR xf_9b0c0e10 xd_50149e55 ?_
      refine wk_iconst xd_af933ba7 ?_
      obtain ⟨wr43_, hCr43_, hVr43_, hBr43_, hFr43_⟩ := cs_ref (k := (Int32.ofInt 4)) (c := 4) hM (by decide) (by decide)
      have hVr43_a := cs_V_tr (cs_V_rf w) hVr43_
      refine wk_call (kd := 0) (i := 69) xd_18695a49 rfl (wk_cal (as := [.inr (.inr (some 2)), .inl (Int32.ofInt 4)]) (t := []) xl_01c887f1 rfl xn_b5464d7d xc_49a83f99 rfl rfl xv_780065b9 rfl) (cm_C_mono (by omega) hCr43_) ?_
      exact wk_ireturn xd_50757e1b xr_50bf016a wk_z0 ⟨_, _, rfl, hVr43_a, cs_P_e (ps_debt_f (by omega)) (by decide) hBr43_⟩
  obtain ⟨o, hC, x, w', rfl, a⟩ := h
  exact ⟨x, w', hC, a⟩
theorem cl_mlp {w0 : cm_W} {T : Nat → Int} {n m p0 : Nat} {f : Nat → Int} {g : Nat → Int64} {a0 b0 : Int} {h : Nat → Int} {nm : Nat → Nat} {vk : Int32} (hQ : ps_Q id f g h nm) (hvk : vk.toInt = ((h 2).toNat : Int)) (Q : cm_O → Prop)
    (hk : ∀ (w : cm_W) (s : Int32) (p : Nat) (vi : Int32) (lp : Option cm_V), ps_mt T n m nm (h 0).toNat 7 0 p0 = .inr (s, p) → cs_V w0 w → cs_M w T n m p f g a0 b0 → 0 ≤ s.toInt → s.toInt ≤ 63 → cm_X (cm_C 4) 236 127 [some (.inr (.inr (some 32))), some (.inl vk), some (.inl s), some (.inl vi), lp] [] w Q)
    (hb : ∀ (w : cm_W) (k q : Nat), ps_mt T n m nm (h 0).toNat 7 0 p0 = .inl (k, q) → cs_V w0 w → cs_B w k q → Q (some (.inl (Int32.ofInt 0)), w)) : ∀ (d i : Nat) (s vi : Int32) (lp : Option cm_V) (w : cm_W) {p : Nat}, d + i = 7 → vi.toInt = (i : Int) → ps_pc s = i → 0 ≤ s.toInt → s.toInt ≤ 63 → ps_mt T n m nm (h 0).toNat 7 0 p0 = ps_mt T n m nm (h 0).toNat d s p → cs_V w0 w → cs_M w T n m p f g a0 b0 → cm_X (cm_C 4) 236 47 [some (.inr (.inr (some 32))), some (.inl vk), some (.inl s), some (.inl vi), lp] [] w Q := by
  have hbd := hQ.2.2
  unfold ps_bd at hbd
  intro d
  induction d with
  | zero =>
    intro i s vi lp w p hi hvi hpc hs0 hs1 hE hV hM
    have hst := ps_set (x := Int32.ofNat 0) hs0 hs1 (by decide) (by decide)
    exfalso
    omega
  | succ d ih =>
    intro i s vi lp w p hi hvi hpc hs0 hs1 hE hV hM
    refine wk_iload_n xd_1d8bb77d rfl ?_
    refine wk_bipush xd_63ab4cf3 ?_
    refine wk_icmp xd_0944dcb2 (t := 127) rfl (fun h50_0 => ?_) (fun h50_0 => ?_)
    · have h50_0 := aw_gt_t (a := ((i : Int) : Int)) (b := (6 : Int)) hvi (show (((Int8.ofInt 6).toInt32)).toInt = 6 from by decide) h50_0
      exfalso
      omega
    · have h50_0 := aw_gt_f (a := ((i : Int) : Int)) (b := (6 : Int)) hvi (show (((Int8.ofInt 6).toInt32)).toInt = 6 from by decide) h50_0
      refine wk_iload_n xd_a1925a79 rfl ?_
      refine wk_if xd_485033bd (t := 69) rfl (fun h54_1 => ?_) (fun h54_1 => ?_)
      · have h54_1 := aw_eq_t (a := ((s).toInt : Int)) (b := (0 : Int)) rfl hb_z h54_1
        have hgo : ¬ (s ≠ 0 ∧ ps_sg T n m p) := fun z => z.1 (Int32.toInt_inj.mp (by rw [show (0 : Int32).toInt = 0 from rfl]; omega))
        refine wk_aload_n xd_3460e393 rfl ?_
        refine wk_getR xf_00234557 xd_d48e00e2 ?_
        refine wk_aload_n xd_586a167b rfl ?_
        refine wk_getR xf_5f3e22a1 xd_40e51f9a ?_
        refine wk_iconst xd_a6cac714 ?_
        obtain ⟨xl, wl, hCl, hVl, hRl⟩ := cs_look18_0 (z := (Int32.ofInt 0)) (by decide) hM (cs_R hM hQ)
        have hVla := cs_V_tr hV hVl
        refine wk_call (kd := 0) (i := 133) xd_fd1319fa rfl (wk_cal (as := [.inr (.inr (some 2)), .inr (.inr (some 18)), .inl (Int32.ofInt 0)]) (t := []) xl_ad6bd43f rfl xn_cd6aa68a xc_ec32c43f rfl rfl xv_5ef21940 rfl) (cm_C_mono (by omega) hCl) ?_
        rcases hRl with ⟨u, eu, hxl, rfl⟩ | ⟨ku, qu, eu, hxl, hBl, hFl⟩
        · have hu := ps_look_b eu
          have hxi := ps_ofInt hxl
          have hst := ps_set hs0 hs1 (show 0 ≤ xl.toInt by omega) (show xl.toInt < 6 by omega)
          refine wk_istore xd_17568e6c (by rw [xm_039b1b65]; rfl) rfl ?_
          refine wk_iload xd_47f97655 rfl ?_
          refine wk_iconst xd_1ca7cda3 ?_
          refine wk_icmp xd_eee2e624 (t := 98) rfl (fun h86_2 => ?_) (fun h86_2 => ?_)
          · have h86_2 := aw_eq_t (a := (u : Int)) (b := ((-1) : Int)) hxl (show ((Int32.ofInt (-1))).toInt = (-1) from by decide) h86_2
            exfalso
            omega
          · have h86_2 := aw_eq_f (a := (u : Int)) (b := ((-1) : Int)) hxl (show ((Int32.ofInt (-1))).toInt = (-1) from by decide) h86_2
            refine wk_iload_n xd_76930d70 rfl ?_
            refine wk_iload xd_2bcf9076 rfl ?_
            refine wk_ishr xd_df7da5c2 ?_
            refine wk_iconst xd_2a784cf8 ?_
            refine wk_iand xd_18b9159f ?_
            refine wk_if xd_9f84e870 (t := 107) rfl (fun h95_3 => ?_) (fun h95_3 => ?_)
            · have h95_3 := aw_eq_t (a := (((s >>> (xl &&& 31)) &&& (Int32.ofInt 1)).toInt : Int)) (b := (0 : Int)) rfl hb_z h95_3
              have hbt : ps_bt s (Int32.ofInt u) = 0 := by rw [← hxi]; exact Int32.toInt_inj.mp h95_3
              refine wk_iload_n xd_ab7da7e3 rfl ?_
              refine wk_iconst xd_19540b83 ?_
              refine wk_iload xd_e0510f66 rfl ?_
              refine aw_ishl xd_ea6daf01 ?_
              refine aw_ior xd_68e744d3 ?_
              refine wk_istore_n xd_5105243f (by rw [xm_039b1b65]; rfl) rfl ?_
              refine wk_aload_n xd_7c7e7bf4 rfl ?_
              refine wk_getR xf_00234557 xd_70964631 ?_
              obtain ⟨wn5_, hCn5_, hVn5_, hMn5_⟩ := cs_next hM hu.2.2
              have hVn5_a := cs_V_tr hVla hVn5_
              refine wk_call (kd := 0) (i := 72) xd_cd781a71 rfl (wk_cal (as := [.inr (.inr (some 2))]) (t := []) xl_3d544e3a rfl xn_568f4fa7 xc_1d38a579 rfl rfl xv_65cfb41b rfl) (cm_C_mono (by omega) hCn5_) ?_
              refine aw_iinc (a := ((i : Int) : Int)) (b := (1 : Int)) (e := ((i : Int) + 1 : Int)) xd_ceb89317 (by rw [xm_039b1b65]; rfl) rfl rfl hvi (show ((Int32.ofInt 1)).toInt = 1 from by decide) (by omega) (by omega) (by omega) (fun v6_ p6_ => ?_)
              refine wk_goto xd_41079124 (t := 47) rfl ?_
              have e9 : (s ||| ((Int32.ofInt 1) <<< (xl &&& 31))) = ps_or s (Int32.ofInt u) := by rw [← hxi]; rfl
              have hb0 : ps_bt s xl = 0 := by rw [hxi]; exact hbt
              rw [e9]
              refine ih (i + 1) _ _ _ _ (by omega) (by omega) ?_ ?_ ?_ (hE.trans (ps_mt_go hgo eu hbt)) hVn5_a hMn5_
              · rw [← hxi, hst.2.1 hb0]; omega
              · rw [← hxi]; exact hst.2.2.1
              · rw [← hxi]; exact hst.2.2.2.1
            · have h95_3 := aw_eq_f (a := (((s >>> (xl &&& 31)) &&& (Int32.ofInt 1)).toInt : Int)) (b := (0 : Int)) rfl hb_z h95_3
              have hbt : ¬ ps_bt s (Int32.ofInt u) = 0 := by rw [← hxi]; intro z; exact h95_3 (congrArg Int32.toInt z)
              refine wk_aload_n xd_4c06028e rfl ?_
              refine wk_getR xf_00234557 xd_c076a66a ?_
              refine wk_iconst xd_f487b763 ?_
              obtain ⟨wr7_, hCr7_, hVr7_, hBr7_, hFr7_⟩ := cs_ref (k := (Int32.ofInt 3)) (c := 3) hM (by decide) (by decide)
              have hVr7_a := cs_V_tr hVla hVr7_
              refine wk_call (kd := 0) (i := 69) xd_03c42b0d rfl (wk_cal (as := [.inr (.inr (some 2)), .inl (Int32.ofInt 3)]) (t := []) xl_34b0cc64 rfl xn_b5464d7d xc_49a83f99 rfl rfl xv_780065b9 rfl) (cm_C_mono (by omega) hCr7_) ?_
              exact wk_ireturn xd_ed373eed xr_a411ede6 wk_z0 (hb _ _ _ (hE.trans (ps_mt_e2 hgo eu hbt)) hVr7_a hBr7_)
        · skip
          refine wk_istore xd_17568e6c (by rw [xm_039b1b65]; rfl) rfl ?_
          refine wk_iload xd_47f97655 rfl ?_
          refine wk_iconst xd_1ca7cda3 ?_
          refine wk_icmp xd_eee2e624 (t := 98) rfl (fun _ => ?_) (fun h => absurd (aw_eq_f hxl (show ((Int32.ofInt (-1))).toInt = (-1) from by decide) h) (by omega))
          refine wk_aload_n xd_4c06028e rfl ?_
          refine wk_getR xf_00234557 xd_c076a66a ?_
          refine wk_iconst xd_f487b763 ?_
          refine wk_call (kd := 0) (i := 69) xd_03c42b0d rfl (wk_cal (as := [.inr (.inr (some 2)), .inl (Int32.ofInt 3)]) (t := []) xl_34b0cc64 rfl xn_b5464d7d xc_49a83f99 rfl rfl xv_780065b9 rfl) (cm_C_mono (by omega) (cs_refB (k := (Int32.ofInt 3)) hBl)) ?_
          exact wk_ireturn xd_ed373eed xr_a411ede6 wk_z0 (hb _ _ _ (hE.trans (ps_mt_e1 hgo eu)) hVla hBl)
      · have h54_1 := aw_eq_f (a := ((s).toInt : Int)) (b := (0 : Int)) rfl hb_z h54_1
        have hen : s ≠ 0 := fun z => h54_1 (by rw [z]; rfl)
        refine wk_aload_n xd_810d7be7 rfl ?_
        refine wk_getR xf_00234557 xd_96e51a01 ?_
        refine wk_bipush xd_24407396 ?_
        obtain ⟨xg, hCg, hxg⟩ := is_ok (w := w) (k := ((Int8.ofInt 59).toInt32)) (c := 59) (by decide) hM.1.2.1
        refine wk_call (kd := 0) (i := 130) xd_2f7e197b rfl (wk_cal (as := [.inr (.inr (some 2)), .inl ((Int8.ofInt 59).toInt32)]) (t := []) xl_97d8402f rfl xn_f2e637ad xc_3770e809 rfl rfl xv_6b285cca rfl) (cm_C_mono (by omega) hCg) ?_
        refine wk_if xd_05b7356c (t := 127) rfl (fun h66_9 => ?_) (fun h66_9 => ?_)
        · have h66_9 := aw_ne_t (a := ((xg).toInt : Int)) (b := (0 : Int)) rfl hb_z h66_9
          exact hk w s p vi lp (hE.trans (ps_mt_end hen (by unfold ps_sg; omega))) hV hM hs0 hs1
        · have h66_9 := aw_ne_f (a := ((xg).toInt : Int)) (b := (0 : Int)) rfl hb_z h66_9
          have hgo : ¬ (s ≠ 0 ∧ ps_sg T n m p) := fun z => by have := z.2; unfold ps_sg at this; omega
          refine wk_aload_n xd_3460e393 rfl ?_
          refine wk_getR xf_00234557 xd_d48e00e2 ?_
          refine wk_aload_n xd_586a167b rfl ?_
          refine wk_getR xf_5f3e22a1 xd_40e51f9a ?_
          refine wk_iconst xd_a6cac714 ?_
          obtain ⟨xl, wl, hCl, hVl, hRl⟩ := cs_look18_0 (z := (Int32.ofInt 0)) (by decide) hM (cs_R hM hQ)
          have hVla := cs_V_tr hV hVl
          refine wk_call (kd := 0) (i := 133) xd_fd1319fa rfl (wk_cal (as := [.inr (.inr (some 2)), .inr (.inr (some 18)), .inl (Int32.ofInt 0)]) (t := []) xl_ad6bd43f rfl xn_cd6aa68a xc_ec32c43f rfl rfl xv_5ef21940 rfl) (cm_C_mono (by omega) hCl) ?_
          rcases hRl with ⟨u, eu, hxl, rfl⟩ | ⟨ku, qu, eu, hxl, hBl, hFl⟩
          · have hu := ps_look_b eu
            have hxi := ps_ofInt hxl
            have hst := ps_set hs0 hs1 (show 0 ≤ xl.toInt by omega) (show xl.toInt < 6 by omega)
            refine wk_istore xd_17568e6c (by rw [xm_039b1b65]; rfl) rfl ?_
            refine wk_iload xd_47f97655 rfl ?_
            refine wk_iconst xd_1ca7cda3 ?_
            refine wk_icmp xd_eee2e624 (t := 98) rfl (fun h86_10 => ?_) (fun h86_10 => ?_)
            · have h86_10 := aw_eq_t (a := (u : Int)) (b := ((-1) : Int)) hxl (show ((Int32.ofInt (-1))).toInt = (-1) from by decide) h86_10
              exfalso
              omega
            · have h86_10 := aw_eq_f (a := (u : Int)) (b := ((-1) : Int)) hxl (show ((Int32.ofInt (-1))).toInt = (-1) from by decide) h86_10
              refine wk_iload_n xd_76930d70 rfl ?_
              refine wk_iload xd_2bcf9076 rfl ?_
              refine wk_ishr xd_df7da5c2 ?_
              refine wk_iconst xd_2a784cf8 ?_
              refine wk_iand xd_18b9159f ?_
              refine wk_if xd_9f84e870 (t := 107) rfl (fun h95_11 => ?_) (fun h95_11 => ?_)
              · have h95_11 := aw_eq_t (a := (((s >>> (xl &&& 31)) &&& (Int32.ofInt 1)).toInt : Int)) (b := (0 : Int)) rfl hb_z h95_11
                have hbt : ps_bt s (Int32.ofInt u) = 0 := by rw [← hxi]; exact Int32.toInt_inj.mp h95_11
                refine wk_iload_n xd_ab7da7e3 rfl ?_
                refine wk_iconst xd_19540b83 ?_
                refine wk_iload xd_e0510f66 rfl ?_
                refine aw_ishl xd_ea6daf01 ?_
                refine aw_ior xd_68e744d3 ?_
                refine wk_istore_n xd_5105243f (by rw [xm_039b1b65]; rfl) rfl ?_
                refine wk_aload_n xd_7c7e7bf4 rfl ?_
                refine wk_getR xf_00234557 xd_70964631 ?_
                obtain ⟨wn13_, hCn13_, hVn13_, hMn13_⟩ := cs_next hM hu.2.2
                have hVn13_a := cs_V_tr hVla hVn13_
                refine wk_call (kd := 0) (i := 72) xd_cd781a71 rfl (wk_cal (as := [.inr (.inr (some 2))]) (t := []) xl_3d544e3a rfl xn_568f4fa7 xc_1d38a579 rfl rfl xv_65cfb41b rfl) (cm_C_mono (by omega) hCn13_) ?_
                refine aw_iinc (a := ((i : Int) : Int)) (b := (1 : Int)) (e := ((i : Int) + 1 : Int)) xd_ceb89317 (by rw [xm_039b1b65]; rfl) rfl rfl hvi (show ((Int32.ofInt 1)).toInt = 1 from by decide) (by omega) (by omega) (by omega) (fun v14_ p14_ => ?_)
                refine wk_goto xd_41079124 (t := 47) rfl ?_
                have e9 : (s ||| ((Int32.ofInt 1) <<< (xl &&& 31))) = ps_or s (Int32.ofInt u) := by rw [← hxi]; rfl
                have hb0 : ps_bt s xl = 0 := by rw [hxi]; exact hbt
                rw [e9]
                refine ih (i + 1) _ _ _ _ (by omega) (by omega) ?_ ?_ ?_ (hE.trans (ps_mt_go hgo eu hbt)) hVn13_a hMn13_
                · rw [← hxi, hst.2.1 hb0]; omega
                · rw [← hxi]; exact hst.2.2.1
                · rw [← hxi]; exact hst.2.2.2.1
              · have h95_11 := aw_eq_f (a := (((s >>> (xl &&& 31)) &&& (Int32.ofInt 1)).toInt : Int)) (b := (0 : Int)) rfl hb_z h95_11
                have hbt : ¬ ps_bt s (Int32.ofInt u) = 0 := by rw [← hxi]; intro z; exact h95_11 (congrArg Int32.toInt z)
                refine wk_aload_n xd_4c06028e rfl ?_
                refine wk_getR xf_00234557 xd_c076a66a ?_
                refine wk_iconst xd_f487b763 ?_
                obtain ⟨wr15_, hCr15_, hVr15_, hBr15_, hFr15_⟩ := cs_ref (k := (Int32.ofInt 3)) (c := 3) hM (by decide) (by decide)
                have hVr15_a := cs_V_tr hVla hVr15_
                refine wk_call (kd := 0) (i := 69) xd_03c42b0d rfl (wk_cal (as := [.inr (.inr (some 2)), .inl (Int32.ofInt 3)]) (t := []) xl_34b0cc64 rfl xn_b5464d7d xc_49a83f99 rfl rfl xv_780065b9 rfl) (cm_C_mono (by omega) hCr15_) ?_
                exact wk_ireturn xd_ed373eed xr_a411ede6 wk_z0 (hb _ _ _ (hE.trans (ps_mt_e2 hgo eu hbt)) hVr15_a hBr15_)
          · skip
            refine wk_istore xd_17568e6c (by rw [xm_039b1b65]; rfl) rfl ?_
            refine wk_iload xd_47f97655 rfl ?_
            refine wk_iconst xd_1ca7cda3 ?_
            refine wk_icmp xd_eee2e624 (t := 98) rfl (fun _ => ?_) (fun h => absurd (aw_eq_f hxl (show ((Int32.ofInt (-1))).toInt = (-1) from by decide) h) (by omega))
            refine wk_aload_n xd_4c06028e rfl ?_
            refine wk_getR xf_00234557 xd_c076a66a ?_
            refine wk_iconst xd_f487b763 ?_
            refine wk_call (kd := 0) (i := 69) xd_03c42b0d rfl (wk_cal (as := [.inr (.inr (some 2)), .inl (Int32.ofInt 3)]) (t := []) xl_34b0cc64 rfl xn_b5464d7d xc_49a83f99 rfl rfl xv_780065b9 rfl) (cm_C_mono (by omega) (cs_refB (k := (Int32.ofInt 3)) hBl)) ?_
            exact wk_ireturn xd_ed373eed xr_a411ede6 wk_z0 (hb _ _ _ (hE.trans (ps_mt_e1 hgo eu)) hVla hBl)
theorem ps_Q_g {F : Nat → Nat} {f : Nat → Int} {g : Nat → Int64} {h : Nat → Int} {nm : Nat → Nat} {i : Nat} {x : Int64} (hQ : ps_Q F f g h nm) (hi : ¬ ps_ln h i) : ps_Q F f (ps_un g i x) h nm := ⟨hQ.1, fun j hj => by
  rw [ps_un_ne (fun z => hi (by rw [← z]; exact hj))]
  exact hQ.2.1 j hj, hQ.2.2⟩
theorem cs_F_C2 {w w' : cm_W} {c i : Nat} {x : Int64} {t : Nat × Nat × Nat × Int × Nat} (hF : cs_F w w') (h2 : rd_C w t) (hc : 18 ≤ c) : rd_C (cm_u2 w' c i x) t := by
  have h3 := cs_F_C hF h2
  unfold rd_C at h3 ⊢
  rw [show (cm_u2 w' c i x).2 2 7 = w'.2 2 7 from tx_u2_ne (by omega)]
  exact h3
theorem cl_meet {w : cm_W} {T : Nat → Int} {n m p : Nat} {f : Nat → Int} {g : Nat → Int64} {a0 b0 : Int} {h : Nat → Int} {nm : Nat → Nat} (hM : cs_M w T n m p f g a0 b0) (hQ : ps_Q id f g h nm) (hs : 1 ≤ (tx_tk T n m p).1 ∧ (tx_tk T n m p).1 ≤ 3)  : ∃ x w', cm_C 5 236 [.inr (.inr (some 32))] w (some (.inl x), w') ∧ cs_V w w' ∧ cs_P T n m (ps_meet T n m h nm a0 b0 p) x w' := by
  have hbd := hQ.2.2
  unfold ps_bd at hbd
  have hcn := vl_cnt (cs_R hM hQ)
  have h : ∃ o, cm_C (4 + 1) 236 [.inr (.inr (some 32))] w o ∧ (fun o : cm_O => ∃ x w', o = (some (.inl x), w') ∧ cs_V w w' ∧ cs_P T n m (ps_meet T n m h nm a0 b0 p) x w') o := by
    refine wk_entry (by rw [xm_039b1b65]; exact Nat.le_of_ble_eq_true rfl) ?_
    rw [show cm_ent 236 [.inr (.inr (some 32))] = [some (.inr (.inr (some 32))), none, none, none, none] from by unfold cm_ent; rw [xm_039b1b65]; rfl]
    refine wk_aload_n xd_b66f18df rfl ?_
    refine wk_getR xf_5f3e22a1 xd_06edc9d3 ?_
    refine wk_getI xf_980d70c9 xd_ebeb9dbe ?_
    refine wk_istore_n xd_bad3b6cc (by rw [xm_039b1b65]; rfl) rfl ?_
    refine wk_iload_n xd_d1b5a124 rfl ?_
    refine wk_bipush xd_3071344c ?_
    refine wk_icmp xd_c373b1ce (t := 23) rfl (fun h11_0 => ?_) (fun h11_0 => ?_)
    · have h11_0 := aw_lt_t (a := (((h 2).toNat : Int) : Int)) (b := (6 : Int)) (show ((w.1 18 5)).toInt = (((h 2).toNat : Int) : Int) from hcn.2.2.1) (show (((Int8.ofInt 6).toInt32)).toInt = 6 from by decide) h11_0
      refine wk_aload_n xd_b049ed03 rfl ?_
      refine wk_getR xf_00234557 xd_e3be4448 ?_
      obtain ⟨wn2_, hCn2_, hVn2_, hMn2_⟩ := cs_next hM hs
      have hVn2_a := cs_V_tr (cs_V_rf w) hVn2_
      refine wk_call (kd := 0) (i := 72) xd_b072c051 rfl (wk_cal (as := [.inr (.inr (some 2))]) (t := []) xl_3d544e3a rfl xn_568f4fa7 xc_1d38a579 rfl rfl xv_65cfb41b rfl) (cm_C_mono (by omega) hCn2_) ?_
      refine wk_aload_n xd_4789b119 rfl ?_
      refine wk_getR xf_5f3e22a1 xd_344753b1 ?_
      refine wk_getR xf_9a7f913c xd_0fc54d80 ?_
      refine wk_iload_n xd_5653d36a rfl ?_
      refine wk_aload_n xd_4730f23f rfl ?_
      obtain ⟨xf3_, wf3_, hCf3_, hVf3_, hRf3_⟩ := cs_fresh hMn2_ hQ
      have hVf3_a := cs_V_tr hVn2_a hVf3_
      refine wk_call (kd := 0) (i := 98) xd_7f1b0560 rfl (wk_cal (as := [.inr (.inr (some 32))]) (t := [.inl (w.1 18 5), .inr (.inr (some 21))]) xl_ab8372c4 rfl xn_ea0ee8e0 xc_46748db1 rfl rfl xv_98e22893 rfl) (cm_C_mono (by omega) hCf3_) ?_
      rcases hRf3_ with ⟨c, q, ef, hc, rfl, hMf3_⟩ | ⟨kf, qf, ef, hBf3_, hFf3_⟩
      · skip
        refine aw_lastore (i := ((h 2).toNat)) xf_e5d36e0d (show ((w.1 18 5)).toInt = (((h 2).toNat : Int) : Int) from hcn.2.2.1) (by omega) (by omega) xd_aad8a1ad ?_
        have hV4_ := cs_V_u2 (c := 21) (i := ((h 2).toNat)) (x := (Int64.ofNat c)) hVf3_a (by omega) (by omega)
        have hM5_ := cs_M_u2 (x := (Int64.ofNat c)) hMf3_ (by omega) (by omega) (vl_s3 18 (i := ((h 2).toNat)))
        refine wk_iconst xd_8c8e6d29 ?_
        refine wk_istore_n xd_19cb18b0 (by rw [xm_039b1b65]; rfl) rfl ?_
        refine wk_iconst xd_fe7f37a9 ?_
        refine wk_istore_n xd_fd90fd0f (by rw [xm_039b1b65]; rfl) rfl ?_
        refine cl_mlp (w0 := w) (p0 := q) (ps_Q_g hQ (by unfold ps_ln; omega)) (show ((w.1 18 5)).toInt = (((h 2).toNat : Int) : Int) from hcn.2.2.1) _ (fun w9 s9 p9 vi9 lp9 hE9 hV9 hM9 hs90 hs91 => ?_) (fun w9 k9 q9 hE9 hV9 hB9 => ?_) 7 0 _ _ _ _ rfl (by decide) (by decide) (by decide) (by decide) (by rw [show (Int32.ofInt 0) = (0 : Int32) from by decide]) hV4_ hM5_
        · skip
          refine wk_aload_n xd_5285ebe1 rfl ?_
          refine wk_getR xf_5f3e22a1 xd_244c6af3 ?_
          refine wk_getR xf_f6702bf4 xd_4d6a1583 ?_
          refine wk_iload_n xd_c2264d26 rfl ?_
          refine wk_iload_n xd_1ef5dd22 rfl ?_
          refine aw_iastore (i := ((h 2).toNat)) xf_1407475c (show ((w.1 18 5)).toInt = (((h 2).toNat : Int) : Int) from hcn.2.2.1) (by omega) (by omega) xd_7372602c ?_
          have hV1_ := cs_V_u1 (c := 27) (i := ((h 2).toNat)) (x := s9) hV9 (by omega) (by omega)
          have hM2_ := cs_M_u1 hM9 (by omega) (by omega) (show (s9).toInt = s9.toInt from rfl) (vl_r9 18 (i := ((h 2).toNat)) (by omega))
          refine wk_aload_n xd_d3a08ec6 rfl ?_
          refine wk_getR xf_5f3e22a1 xd_c351cc64 ?_
          refine wk_iload_n xd_68113116 rfl ?_
          refine wk_iconst xd_8e1b4590 ?_
          refine aw_iadd (a := (((h 2).toNat : Int) : Int)) (b := (1 : Int)) (e := (((h 2).toNat : Int) + 1 : Int)) xd_66c04f65 (show ((w.1 18 5)).toInt = (((h 2).toNat : Int) : Int) from hcn.2.2.1) (show ((Int32.ofInt 1)).toInt = 1 from by decide) (by omega) (by omega) (by omega) (fun v3_ p3_ => ?_)
          refine wk_putI xf_d67e3883 (fun ci => wk_fitI ci) xd_8176939d ?_
          have hV4_ := cs_V_u1 (c := 18) (i := 5) (x := v3_) hV1_ (by omega) (by omega)
          have hM5_ := cs_M_u1 hM2_ (by omega) (by omega) (show (v3_).toInt = (h 2 + 1) from (by have e9 := p3_; omega)) (vl_q5 18)
          refine wk_iconst xd_c592b250 ?_
          exact wk_ireturn xd_6259a15d xr_a411ede6 wk_z1 ⟨_, _, rfl, hV4_, cs_P_n (ps_meet_n (by omega) ef hE9) (by decide) hM5_ (ps_Q_meet hc hQ (by omega))⟩
        · exact ⟨_, _, rfl, hV9, cs_P_e (ps_meet_x (by omega) ef hE9) (by decide) hB9⟩
      · skip
        refine aw_lastore (i := ((h 2).toNat)) xf_e5d36e0d (show ((w.1 18 5)).toInt = (((h 2).toNat : Int) : Int) from hcn.2.2.1) (by omega) (by omega) xd_aad8a1ad ?_
        have hV6_ := cs_V_u2 (c := 21) (i := ((h 2).toNat)) (x := xf3_) hVf3_a (by omega) (by omega)
        have hB7_ := cs_B_u2 (c := 21) (i := ((h 2).toNat)) (x := xf3_) hBf3_ (by omega)
        refine wk_iconst xd_8c8e6d29 ?_
        refine wk_istore_n xd_19cb18b0 (by rw [xm_039b1b65]; rfl) rfl ?_
        refine wk_iconst xd_fe7f37a9 ?_
        refine wk_istore_n xd_fd90fd0f (by rw [xm_039b1b65]; rfl) rfl ?_
        refine wk_iload_n xd_1d8bb77d rfl ?_
        refine wk_bipush xd_63ab4cf3 ?_
        refine wk_icmp xd_0944dcb2 (t := 127) rfl (fun h => absurd (aw_gt_t (show ((Int32.ofInt 0)).toInt = 0 from by decide) (show (((Int8.ofInt 6).toInt32)).toInt = 6 from by decide) h) (by omega)) (fun _ => ?_)
        refine wk_iload_n xd_a1925a79 rfl ?_
        refine wk_if xd_485033bd (t := 69) rfl (fun _ => ?_) (fun h => absurd (aw_eq_f (show ((Int32.ofInt 0)).toInt = 0 from by decide) hb_z h) (by omega))
        refine wk_aload_n xd_3460e393 rfl ?_
        refine wk_getR xf_00234557 xd_d48e00e2 ?_
        refine wk_aload_n xd_586a167b rfl ?_
        refine wk_getR xf_5f3e22a1 xd_40e51f9a ?_
        refine wk_iconst xd_a6cac714 ?_
        have hRf := cs_F_R (v := 18) (by omega) hFf3_ (cs_R hMn2_ hQ)
        have hRg : vl_R (cm_u2 wf3_ 21 ((h 2).toNat) xf3_) 18 h nm := by
          unfold vl_R at hRf ⊢
          rw [vl_N_u2 (vl_s3 18 (i := (h 2).toNat))]
          exact ps_Q_g hRf (by unfold ps_ln; omega)
        obtain ⟨xv, hCv, hxv⟩ := cs_look18_0B (z := (Int32.ofInt 0)) (by decide) hB7_ (show rd_C (cm_u2 wf3_ 21 ((h 2).toNat) xf3_) _ from cs_F_C2 (hFf3_) hMn2_.1.2.1 (by omega)) hRg
        refine wk_call (kd := 0) (i := 133) xd_fd1319fa rfl (wk_cal (as := [.inr (.inr (some 2)), .inr (.inr (some 18)), .inl (Int32.ofInt 0)]) (t := []) xl_ad6bd43f rfl xn_cd6aa68a xc_ec32c43f rfl rfl xv_5ef21940 rfl) (cm_C_mono (by omega) hCv) ?_
        refine wk_istore xd_17568e6c (by rw [xm_039b1b65]; rfl) rfl ?_
        refine wk_iload xd_47f97655 rfl ?_
        refine wk_iconst xd_1ca7cda3 ?_
        refine wk_icmp xd_eee2e624 (t := 98) rfl (fun _ => ?_) (fun h => absurd (aw_eq_f hxv (show ((Int32.ofInt (-1))).toInt = (-1) from by decide) h) (by omega))
        refine wk_aload_n xd_4c06028e rfl ?_
        refine wk_getR xf_00234557 xd_c076a66a ?_
        refine wk_iconst xd_f487b763 ?_
        refine wk_call (kd := 0) (i := 69) xd_03c42b0d rfl (wk_cal (as := [.inr (.inr (some 2)), .inl (Int32.ofInt 3)]) (t := []) xl_34b0cc64 rfl xn_b5464d7d xc_49a83f99 rfl rfl xv_780065b9 rfl) (cm_C_mono (by omega) (cs_refB (k := (Int32.ofInt 3)) hB7_)) ?_
        exact wk_ireturn xd_ed373eed xr_a411ede6 wk_z0 ⟨_, _, rfl, hV6_, cs_P_e (ps_meet_e (by omega) ef) (by decide) hB7_⟩
    · have h11_0 := aw_lt_f (a := (((h 2).toNat : Int) : Int)) (b := (6 : Int)) (show ((w.1 18 5)).toInt = (((h 2).toNat : Int) : Int) from hcn.2.2.1) (show (((Int8.ofInt 6).toInt32)).toInt = 6 from by decide) h11_0
      refine wk_aload_n xd_9eeedc85 rfl ?_
      refine wk_getR xf_00234557 xd_5776973c ?_
      refine wk_iconst xd_621a0bee ?_
      obtain ⟨wr12_, hCr12_, hVr12_, hBr12_, hFr12_⟩ := cs_ref (k := (Int32.ofInt 4)) (c := 4) hM (by decide) (by decide)
      have hVr12_a := cs_V_tr (cs_V_rf w) hVr12_
      refine wk_call (kd := 0) (i := 69) xd_aee24fa7 rfl (wk_cal (as := [.inr (.inr (some 2)), .inl (Int32.ofInt 4)]) (t := []) xl_34b0cc64 rfl xn_b5464d7d xc_49a83f99 rfl rfl xv_780065b9 rfl) (cm_C_mono (by omega) hCr12_) ?_
      exact wk_ireturn xd_0e43a4ee xr_a411ede6 wk_z0 ⟨_, _, rfl, hVr12_a, cs_P_e (ps_meet_f (by omega)) (by decide) hBr12_⟩
  obtain ⟨o, hC, x, w', rfl, a⟩ := h
  exact ⟨x, w', hC, a⟩
theorem cs_P_bit {T : Nat → Int} {n m : Nat} {r : ps_R} {x : Int32} {w : cm_W} (h : cs_P T n m r x w) : ia_nar .boolean (ia_E x) = true := by
  unfold cs_P at h
  split at h
  · exact aw_bit (by have := h.1; omega) (by have := h.1; omega)
  · exact aw_bit (by have := h.1; omega) (by have := h.1; omega)
theorem rd_C_key {w : cm_W} {t : Nat × Nat × Nat × Int × Nat} (h : rd_C w t) : ((w.1 2 8).toInt = -1 ∧ ∀ k, k < 6 → ¬ ps_wd t k) ∨ ∃ k : Nat, k < 22 ∧ (w.1 2 8).toInt = k ∧ t.1 = 1 ∧ tx_rw.getD k 0 = t.2.2.2.2 := by
  obtain ⟨_, h⟩ := h
  rcases h with ⟨a, b, c, _⟩ | ⟨a, b, c, d, e, f⟩ | ⟨a, b, c, d, _⟩ | ⟨a, b, c, d, _⟩ | ⟨a, b, c⟩
  · exact .inl ⟨c, fun k _ z => by have := z.1; omega⟩
  · rcases f with ⟨f1, f2⟩ | ⟨k, f1, f2, f3⟩
    · exact .inl ⟨f1, fun k hk z => f2 k (by omega) z.2.symm⟩
    · exact .inr ⟨k, f1, f2, a, f3⟩
  · exact .inl ⟨d, fun k _ z => by have := z.1; omega⟩
  · exact .inl ⟨d, fun k _ z => by have := z.1; omega⟩
  · exact .inl ⟨b, fun k _ z => by have := z.1; omega⟩
theorem cl_line {w : cm_W} {T : Nat → Int} {n m p : Nat} {f : Nat → Int} {g : Nat → Int64} {a0 b0 : Int} {h : Nat → Int} {nm : Nat → Nat} (hM : cs_M w T n m p f g a0 b0) (hQ : ps_Q id f g h nm)  : ∃ x w', cm_C 6 235 [.inr (.inr (some 32))] w (some (.inl x), w') ∧ cs_V w w' ∧ cs_P T n m (ps_line T n m h nm a0 b0 p) x w' := by
  have h : ∃ o, cm_C (5 + 1) 235 [.inr (.inr (some 32))] w o ∧ (fun o : cm_O => ∃ x w', o = (some (.inl x), w') ∧ cs_V w w' ∧ cs_P T n m (ps_line T n m h nm a0 b0 p) x w') o := by
    refine wk_entry (by rw [xm_4356a5ac]; exact Nat.le_of_ble_eq_true rfl) ?_
    rw [show cm_ent 235 [.inr (.inr (some 32))] = [some (.inr (.inr (some 32)))] from by unfold cm_ent; rw [xm_4356a5ac]; rfl]
    refine wk_aload_n xd_4438f527 rfl ?_
    refine wk_getR xf_76c67c6a xd_6f7483d1 ?_
    refine wk_getI xf_fb245953 xd_f2584103 ?_
    rcases rd_C_key hM.1.2.1 with ⟨hk9, hno⟩ | ⟨k9, hk9, hx9, h1, hwd⟩
    · skip
      refine ax_tsd (t := 74) xd_54d0379e (.inl (by omega)) rfl ?_
      refine wk_aload_n xd_9d47a316 rfl ?_
      refine wk_getR xf_76c67c6a xd_3e73fcbd ?_
      refine wk_iconst xd_b5671b1c ?_
      obtain ⟨w1, hC1, hV1, hB1, hF1⟩ := cs_ref (k := (Int32.ofInt 1)) (c := 1) hM (by decide) (by decide)
      refine wk_call (kd := 0) (i := 69) xd_e534ce1b rfl (wk_cal (as := [.inr (.inr (some 2)), .inl (Int32.ofInt 1)]) (t := []) xl_2798f517 rfl xn_b5464d7d xc_49a83f99 rfl rfl xv_780065b9 rfl) (cm_C_mono (by omega) hC1) ?_
      exact wk_ireturn xd_acbdfd3d xr_f78bb662 wk_z0 ⟨_, _, rfl, hV1, cs_P_e (ps_line_no hno) (by decide) hB1⟩
    · have hs : 1 ≤ (tx_tk T n m p).1 ∧ (tx_tk T n m p).1 ≤ 3 := by omega
      rcases (show k9 = 0 ∨ k9 = 1 ∨ k9 = 2 ∨ k9 = 3 ∨ k9 = 4 ∨ k9 = 5 ∨ 6 ≤ k9 by omega) with rfl | rfl | rfl | rfl | rfl | rfl | h6
      · refine ax_tsw (j := 0) (t := 44) xd_54d0379e (by omega) (by omega) (by omega) rfl rfl ?_
        refine wk_aload_n xd_c5590a3e rfl ?_
        obtain ⟨x, w1, hC1, hV1, hP1⟩ := cl_span hM hQ hs
        refine wk_call (kd := 0) (i := 51) xd_890d5c26 rfl (wk_cal (as := [.inr (.inr (some 32))]) (t := []) xl_2ce679f1 rfl xn_c77b9399 xc_5aa08299 rfl rfl xv_fb2bee1e rfl) (cm_C_mono (by omega) hC1) ?_
        refine wk_ireturn xd_88694036 xr_f78bb662 ?_ ⟨x, w1, rfl, hV1, ?_⟩
        · exact cs_P_bit hP1
        · rw [ps_line_0 ⟨h1, hwd.symm⟩]
          exact hP1
      · refine ax_tsw (j := 1) (t := 49) xd_54d0379e (by omega) (by omega) (by omega) rfl rfl ?_
        refine wk_aload_n xd_5ecf025f rfl ?_
        obtain ⟨x, w1, hC1, hV1, hP1⟩ := cl_wint hM hQ hs
        refine wk_call (kd := 0) (i := 54) xd_82e954af rfl (wk_cal (as := [.inr (.inr (some 32))]) (t := []) xl_bad7ebb4 rfl xn_fa1bba29 xc_fcb341fd rfl rfl xv_0af1ebb4 rfl) (cm_C_mono (by omega) hC1) ?_
        refine wk_ireturn xd_c1adaf63 xr_f78bb662 ?_ ⟨x, w1, rfl, hV1, ?_⟩
        · exact cs_P_bit hP1
        · rw [ps_line_1 ⟨h1, hwd.symm⟩]
          exact hP1
      · refine ax_tsw (j := 2) (t := 54) xd_54d0379e (by omega) (by omega) (by omega) rfl rfl ?_
        refine wk_aload_n xd_447c6f19 rfl ?_
        obtain ⟨x, w1, hC1, hV1, hP1⟩ := cl_pers hM hQ hs
        refine wk_call (kd := 0) (i := 57) xd_08aa4157 rfl (wk_cal (as := [.inr (.inr (some 32))]) (t := []) xl_26832527 rfl xn_452b0448 xc_aef0cec0 rfl rfl xv_a0aac8df rfl) (cm_C_mono (by omega) hC1) ?_
        refine wk_ireturn xd_9f4124f6 xr_f78bb662 ?_ ⟨x, w1, rfl, hV1, ?_⟩
        · exact cs_P_bit hP1
        · rw [ps_line_2 ⟨h1, hwd.symm⟩]
          exact hP1
      · refine ax_tsw (j := 3) (t := 59) xd_54d0379e (by omega) (by omega) (by omega) rfl rfl ?_
        refine wk_aload_n xd_dfea6778 rfl ?_
        obtain ⟨x, w1, hC1, hV1, hP1⟩ := cl_food hM hQ hs
        refine wk_call (kd := 0) (i := 60) xd_e2d5b9b2 rfl (wk_cal (as := [.inr (.inr (some 32))]) (t := []) xl_1bfbaf1f rfl xn_028b7e98 xc_9fb58d2d rfl rfl xv_69b5c060 rfl) (cm_C_mono (by omega) hC1) ?_
        refine wk_ireturn xd_f8d50223 xr_f78bb662 ?_ ⟨x, w1, rfl, hV1, ?_⟩
        · exact cs_P_bit hP1
        · rw [ps_line_3 ⟨h1, hwd.symm⟩]
          exact hP1
      · refine ax_tsw (j := 4) (t := 64) xd_54d0379e (by omega) (by omega) (by omega) rfl rfl ?_
        refine wk_aload_n xd_1c62c631 rfl ?_
        obtain ⟨x, w1, hC1, hV1, hP1⟩ := cl_meet hM hQ hs
        refine wk_call (kd := 0) (i := 63) xd_6896ac4a rfl (wk_cal (as := [.inr (.inr (some 32))]) (t := []) xl_2ee1d0c2 rfl xn_784b2df8 xc_08e30da4 rfl rfl xv_5170cd75 rfl) (cm_C_mono (by omega) hC1) ?_
        refine wk_ireturn xd_a63989b6 xr_f78bb662 ?_ ⟨x, w1, rfl, hV1, ?_⟩
        · exact cs_P_bit hP1
        · rw [ps_line_4 ⟨h1, hwd.symm⟩]
          exact hP1
      · refine ax_tsw (j := 5) (t := 69) xd_54d0379e (by omega) (by omega) (by omega) rfl rfl ?_
        refine wk_aload_n xd_87f4ce50 rfl ?_
        obtain ⟨x, w1, hC1, hV1, hP1⟩ := cl_debt hM hQ hs
        refine wk_call (kd := 0) (i := 66) xd_6372a4c3 rfl (wk_cal (as := [.inr (.inr (some 32))]) (t := []) xl_07728465 rfl xn_b0aba288 xc_5b2cc993 rfl rfl xv_d120d2f5 rfl) (cm_C_mono (by omega) hC1) ?_
        refine wk_ireturn xd_effd66e3 xr_f78bb662 ?_ ⟨x, w1, rfl, hV1, ?_⟩
        · exact cs_P_bit hP1
        · rw [ps_line_5 ⟨h1, hwd.symm⟩]
          exact hP1
      · have hno : ∀ k, k < 6 → ¬ ps_wd (tx_tk T n m p) k := fun k hk => ps_wd_ne (k := k9) ⟨h1, hwd.symm⟩ (by omega) hk9 (by omega)
        refine ax_tsd (t := 74) xd_54d0379e (.inr (by omega)) rfl ?_
        refine wk_aload_n xd_9d47a316 rfl ?_
        refine wk_getR xf_76c67c6a xd_3e73fcbd ?_
        refine wk_iconst xd_b5671b1c ?_
        obtain ⟨w1, hC1, hV1, hB1, hF1⟩ := cs_ref (k := (Int32.ofInt 1)) (c := 1) hM (by decide) (by decide)
        refine wk_call (kd := 0) (i := 69) xd_e534ce1b rfl (wk_cal (as := [.inr (.inr (some 2)), .inl (Int32.ofInt 1)]) (t := []) xl_2798f517 rfl xn_b5464d7d xc_49a83f99 rfl rfl xv_780065b9 rfl) (cm_C_mono (by omega) hC1) ?_
        exact wk_ireturn xd_acbdfd3d xr_f78bb662 wk_z0 ⟨_, _, rfl, hV1, cs_P_e (ps_line_no hno) (by decide) hB1⟩
  obtain ⟨o, hC, x, w', rfl, a⟩ := h
  exact ⟨x, w', hC, a⟩

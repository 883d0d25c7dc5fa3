set_option maxRecDepth 100000 in
theorem xd_337b5af2 : decode (ia_code 281) 79 = .ok (.iload 4, 2) := fdd_d (by decide +kernel)
set_option maxRecDepth 100000 in
theorem xd_ec2e9dcf : decode (ia_code 281) 81 = .ok (.iload_n 1, 1) := fdd_d (by decide +kernel)
set_option maxRecDepth 100000 in
theorem xd_50043628 : decode (ia_code 281) 82 = .ok (.if_icmp .ge 50, 3) := fdd_d (by decide +kernel)
set_option maxRecDepth 100000 in
theorem xd_96b26f3c : decode (ia_code 281) 85 = .ok (.iload_n 3, 1) := fdd_d (by decide +kernel)
set_option maxRecDepth 100000 in
theorem xd_286127d8 : decode (ia_code 281) 86 = .ok (.ifCond .eq 38, 3) := fdd_d (by decide +kernel)
set_option maxRecDepth 100000 in
theorem xd_f1e4ed93 : decode (ia_code 281) 124 = .ok (.iconst 0, 1) := fdd_d (by decide +kernel)
set_option maxRecDepth 100000 in
theorem xd_6704db28 : decode (ia_code 281) 125 = .ok (.istore_n 3, 1) := fdd_d (by decide +kernel)
set_option maxRecDepth 100000 in
theorem xm_db7c37b6 : ia_maxL 281 = 5 := by decide +kernel
set_option maxRecDepth 100000 in
theorem xd_b3623a90 : decode (ia_code 281) 126 = .ok (.iinc 4 1, 3) := fdd_d (by decide +kernel)
set_option maxRecDepth 100000 in
theorem xd_7f0245d7 : decode (ia_code 281) 129 = .ok (.goto (-50), 3) := fdd_d (by decide +kernel)
set_option maxRecDepth 100000 in
theorem xd_8bf42434 : decode (ia_code 281) 89 = .ok (.aload_n 0, 1) := fdd_d (by decide +kernel)
set_option maxRecDepth 100000 in
theorem xd_681665a3 : decode (ia_code 281) 90 = .ok (.getfield 37, 3) := fdd_d (by decide +kernel)
set_option maxRecDepth 100000 in
theorem xf_0c09b95f : wk_gf 281 37 184 7 (187 + 3) = true := by decide +kernel
set_option maxRecDepth 100000 in
theorem xd_213ee1e2 : decode (ia_code 281) 93 = .ok (.bipush 39, 2) := fdd_d (by decide +kernel)
set_option maxRecDepth 100000 in
theorem xd_cfc22bbf : decode (ia_code 281) 95 = .ok (.iload 4, 2) := fdd_d (by decide +kernel)
set_option maxRecDepth 100000 in
theorem xd_4021afc0 : decode (ia_code 281) 97 = .ok (.iadd, 1) := fdd_d (by decide +kernel)
set_option maxRecDepth 100000 in
theorem xd_56cfc8af : decode (ia_code 281) 98 = .ok (.iaload, 1) := fdd_d (by decide +kernel)
set_option maxRecDepth 100000 in
theorem xd_2a12c11e : decode (ia_code 281) 99 = .ok (.iload_n 2, 1) := fdd_d (by decide +kernel)
set_option maxRecDepth 100000 in
theorem xd_541fe225 : decode (ia_code 281) 100 = .ok (.if_icmp .ne 20, 3) := fdd_d (by decide +kernel)
set_option maxRecDepth 100000 in
theorem xd_90255723 : decode (ia_code 281) 120 = .ok (.iconst 1, 1) := fdd_d (by decide +kernel)
set_option maxRecDepth 100000 in
theorem xd_bb83ce22 : decode (ia_code 281) 121 = .ok (.goto 4, 3) := fdd_d (by decide +kernel)
set_option maxRecDepth 100000 in
theorem xd_843fdbe0 : decode (ia_code 281) 103 = .ok (.aload_n 0, 1) := fdd_d (by decide +kernel)
set_option maxRecDepth 100000 in
theorem xd_008ddc78 : decode (ia_code 281) 104 = .ok (.getfield 37, 3) := fdd_d (by decide +kernel)
set_option maxRecDepth 100000 in
theorem xd_5fa67af5 : decode (ia_code 281) 107 = .ok (.bipush 49, 2) := fdd_d (by decide +kernel)
set_option maxRecDepth 100000 in
theorem xd_49848f09 : decode (ia_code 281) 109 = .ok (.iload 4, 2) := fdd_d (by decide +kernel)
set_option maxRecDepth 100000 in
theorem xd_a134a464 : decode (ia_code 281) 111 = .ok (.iadd, 1) := fdd_d (by decide +kernel)
set_option maxRecDepth 100000 in
theorem xd_d840b434 : decode (ia_code 281) 112 = .ok (.iaload, 1) := fdd_d (by decide +kernel)
set_option maxRecDepth 100000 in
theorem xd_051abec7 : decode (ia_code 281) 113 = .ok (.aload_n 0, 1) := fdd_d (by decide +kernel)
set_option maxRecDepth 100000 in
theorem xd_08e06ce7 : decode (ia_code 281) 114 = .ok (.getfield 186, 3) := fdd_d (by decide +kernel)
set_option maxRecDepth 100000 in
theorem xf_87efdaec : wk_gf 281 186 184 18 0 = true := by decide +kernel
set_option maxRecDepth 100000 in
theorem xd_94fc4532 : decode (ia_code 281) 117 = .ok (.if_icmp .eq 7, 3) := fdd_d (by decide +kernel)
set_option maxRecDepth 100000 in
theorem xd_1fba98b0 : decode (ia_code 281) 0 = .ok (.aload_n 0, 1) := fdd_d (by decide +kernel)
set_option maxRecDepth 100000 in
theorem xd_3e386625 : decode (ia_code 281) 1 = .ok (.getfield 37, 3) := fdd_d (by decide +kernel)
set_option maxRecDepth 100000 in
theorem xd_832b092a : decode (ia_code 281) 4 = .ok (.iconst 3, 1) := fdd_d (by decide +kernel)
set_option maxRecDepth 100000 in
theorem xd_1431682f : decode (ia_code 281) 5 = .ok (.iaload, 1) := fdd_d (by decide +kernel)
set_option maxRecDepth 100000 in
theorem xd_e6527aa2 : decode (ia_code 281) 6 = .ok (.istore_n 1, 1) := fdd_d (by decide +kernel)
set_option maxRecDepth 100000 in
theorem xd_0e60fac3 : decode (ia_code 281) 7 = .ok (.iload_n 1, 1) := fdd_d (by decide +kernel)
set_option maxRecDepth 100000 in
theorem xd_991b28d2 : decode (ia_code 281) 8 = .ok (.bipush 10, 2) := fdd_d (by decide +kernel)
set_option maxRecDepth 100000 in
theorem xd_8ac81889 : decode (ia_code 281) 10 = .ok (.if_icmp .ne 9, 3) := fdd_d (by decide +kernel)
set_option maxRecDepth 100000 in
theorem xd_d8dc7dad : decode (ia_code 281) 19 = .ok (.aload_n 0, 1) := fdd_d (by decide +kernel)
set_option maxRecDepth 100000 in
theorem xl_23ca39b0 : ia_pl (ia_cls 281) 179 = some (1, 129, 0, 0, 1646) := by decide +kernel
set_option maxRecDepth 100000 in
theorem xd_cc54bd2e : decode (ia_code 281) 20 = .ok (.invokevirtual 179, 3) := fdd_d (by decide +kernel)
set_option maxRecDepth 100000 in
theorem xd_6ded444a : decode (ia_code 281) 23 = .ok (.aload_n 0, 1) := fdd_d (by decide +kernel)
set_option maxRecDepth 100000 in
theorem xd_120cda00 : decode (ia_code 281) 24 = .ok (.bipush 16, 2) := fdd_d (by decide +kernel)
set_option maxRecDepth 100000 in
theorem xd_f6c20f0d : decode (ia_code 281) 26 = .ok (.aload_n 0, 1) := fdd_d (by decide +kernel)
set_option maxRecDepth 100000 in
theorem xd_0138594f : decode (ia_code 281) 27 = .ok (.getfield 37, 3) := fdd_d (by decide +kernel)
set_option maxRecDepth 100000 in
theorem xd_6a9ad8a8 : decode (ia_code 281) 30 = .ok (.iconst 0, 1) := fdd_d (by decide +kernel)
set_option maxRecDepth 100000 in
theorem xd_6f452d50 : decode (ia_code 281) 31 = .ok (.iaload, 1) := fdd_d (by decide +kernel)
set_option maxRecDepth 100000 in
theorem xl_c5a69af9 : ia_pl (ia_cls 281) 229 = some (1, 286, 0, 0, 1718) := by decide +kernel
set_option maxRecDepth 100000 in
theorem xd_4164e208 : decode (ia_code 281) 32 = .ok (.invokevirtual 229, 3) := fdd_d (by decide +kernel)
set_option maxRecDepth 100000 in
theorem xd_e4e3f0e9 : decode (ia_code 281) 35 = .ok (.ifCond .ne 5, 3) := fdd_d (by decide +kernel)
set_option maxRecDepth 100000 in
theorem xd_ab352f27 : decode (ia_code 281) 40 = .ok (.aload_n 0, 1) := fdd_d (by decide +kernel)
set_option maxRecDepth 100000 in
theorem xd_5d57e75a : decode (ia_code 281) 41 = .ok (.getfield 186, 3) := fdd_d (by decide +kernel)
set_option maxRecDepth 100000 in
theorem xd_1616452d : decode (ia_code 281) 44 = .ok (.istore_n 2, 1) := fdd_d (by decide +kernel)
set_option maxRecDepth 100000 in
theorem xd_301a6460 : decode (ia_code 281) 45 = .ok (.aload_n 0, 1) := fdd_d (by decide +kernel)
set_option maxRecDepth 100000 in
theorem xd_4fa75bb9 : decode (ia_code 281) 46 = .ok (.bipush 16, 2) := fdd_d (by decide +kernel)
set_option maxRecDepth 100000 in
theorem xd_ab8c6c01 : decode (ia_code 281) 48 = .ok (.aload_n 0, 1) := fdd_d (by decide +kernel)
set_option maxRecDepth 100000 in
theorem xd_79367bef : decode (ia_code 281) 49 = .ok (.getfield 37, 3) := fdd_d (by decide +kernel)
set_option maxRecDepth 100000 in
theorem xd_a9006352 : decode (ia_code 281) 52 = .ok (.iconst 0, 1) := fdd_d (by decide +kernel)
set_option maxRecDepth 100000 in
theorem xd_53b65e1a : decode (ia_code 281) 53 = .ok (.iaload, 1) := fdd_d (by decide +kernel)
set_option maxRecDepth 100000 in
theorem xl_6e841473 : ia_pl (ia_cls 281) 201 = some (1, 274, 0, 0, 1710) := by decide +kernel
set_option maxRecDepth 100000 in
theorem xd_53c36d1b : decode (ia_code 281) 54 = .ok (.invokevirtual 201, 3) := fdd_d (by decide +kernel)
set_option maxRecDepth 100000 in
theorem xd_4df0e641 : decode (ia_code 281) 57 = .ok (.ifCond .ne 5, 3) := fdd_d (by decide +kernel)
set_option maxRecDepth 100000 in
theorem xd_9f9830c1 : decode (ia_code 281) 62 = .ok (.aload_n 0, 1) := fdd_d (by decide +kernel)
set_option maxRecDepth 100000 in
theorem xd_95059ab7 : decode (ia_code 281) 63 = .ok (.getfield 186, 3) := fdd_d (by decide +kernel)
set_option maxRecDepth 100000 in
theorem xd_bf07115f : decode (ia_code 281) 66 = .ok (.iload_n 2, 1) := fdd_d (by decide +kernel)
set_option maxRecDepth 100000 in
theorem xd_2ddfb7b6 : decode (ia_code 281) 67 = .ok (.if_icmp .eq 7, 3) := fdd_d (by decide +kernel)
set_option maxRecDepth 100000 in
theorem xd_3667ea3b : decode (ia_code 281) 74 = .ok (.iconst 0, 1) := fdd_d (by decide +kernel)
set_option maxRecDepth 100000 in
theorem xd_9fbebfe9 : decode (ia_code 281) 75 = .ok (.istore_n 3, 1) := fdd_d (by decide +kernel)
set_option maxRecDepth 100000 in
theorem xd_183723bb : decode (ia_code 281) 76 = .ok (.iconst 0, 1) := fdd_d (by decide +kernel)
set_option maxRecDepth 100000 in
theorem xd_ba728f0b : decode (ia_code 281) 77 = .ok (.istore 4, 2) := fdd_d (by decide +kernel)
set_option maxRecDepth 100000 in
theorem xd_5af131a1 : decode (ia_code 281) 132 = .ok (.iload_n 3, 1) := fdd_d (by decide +kernel)
set_option maxRecDepth 100000 in
theorem xd_893e0ba9 : decode (ia_code 281) 133 = .ok (.ifCond .ne 9, 3) := fdd_d (by decide +kernel)
set_option maxRecDepth 100000 in
theorem xd_764aaf6b : decode (ia_code 281) 142 = .ok (.aload_n 0, 1) := fdd_d (by decide +kernel)
set_option maxRecDepth 100000 in
theorem xd_e449b60e : decode (ia_code 281) 143 = .ok (.getfield 37, 3) := fdd_d (by decide +kernel)
set_option maxRecDepth 100000 in
theorem xd_b0d63ec6 : decode (ia_code 281) 146 = .ok (.bipush 39, 2) := fdd_d (by decide +kernel)
set_option maxRecDepth 100000 in
theorem xd_fc06c579 : decode (ia_code 281) 148 = .ok (.iload_n 1, 1) := fdd_d (by decide +kernel)
set_option maxRecDepth 100000 in
theorem xd_88ef87d2 : decode (ia_code 281) 149 = .ok (.iadd, 1) := fdd_d (by decide +kernel)
set_option maxRecDepth 100000 in
theorem xd_3a3a99a8 : decode (ia_code 281) 150 = .ok (.iload_n 2, 1) := fdd_d (by decide +kernel)
set_option maxRecDepth 100000 in
theorem xd_c1b13c9b : decode (ia_code 281) 151 = .ok (.iastore, 1) := fdd_d (by decide +kernel)
set_option maxRecDepth 100000 in
theorem xd_f76fca4c : decode (ia_code 281) 152 = .ok (.aload_n 0, 1) := fdd_d (by decide +kernel)
set_option maxRecDepth 100000 in
theorem xd_03541099 : decode (ia_code 281) 153 = .ok (.getfield 37, 3) := fdd_d (by decide +kernel)
set_option maxRecDepth 100000 in
theorem xd_2cf66b59 : decode (ia_code 281) 156 = .ok (.bipush 49, 2) := fdd_d (by decide +kernel)
set_option maxRecDepth 100000 in
theorem xd_7d23a05e : decode (ia_code 281) 158 = .ok (.iload_n 1, 1) := fdd_d (by decide +kernel)
set_option maxRecDepth 100000 in
theorem xd_5f0d078a : decode (ia_code 281) 159 = .ok (.iadd, 1) := fdd_d (by decide +kernel)
set_option maxRecDepth 100000 in
theorem xd_42e7b08d : decode (ia_code 281) 160 = .ok (.aload_n 0, 1) := fdd_d (by decide +kernel)
set_option maxRecDepth 100000 in
theorem xd_17bc1a28 : decode (ia_code 281) 161 = .ok (.getfield 186, 3) := fdd_d (by decide +kernel)
set_option maxRecDepth 100000 in
theorem xd_75ea16fe : decode (ia_code 281) 164 = .ok (.iastore, 1) := fdd_d (by decide +kernel)
set_option maxRecDepth 100000 in
theorem xd_d9c8fbca : decode (ia_code 281) 165 = .ok (.aload_n 0, 1) := fdd_d (by decide +kernel)
set_option maxRecDepth 100000 in
theorem xd_fb743dec : decode (ia_code 281) 166 = .ok (.invokevirtual 179, 3) := fdd_d (by decide +kernel)
set_option maxRecDepth 100000 in
theorem xd_d92d197f : decode (ia_code 281) 169 = .ok (.aload_n 0, 1) := fdd_d (by decide +kernel)
set_option maxRecDepth 100000 in
theorem xd_d35b0689 : decode (ia_code 281) 170 = .ok (.bipush 59, 2) := fdd_d (by decide +kernel)
set_option maxRecDepth 100000 in
theorem xd_4937fc9e : decode (ia_code 281) 172 = .ok (.iload_n 1, 1) := fdd_d (by decide +kernel)
set_option maxRecDepth 100000 in
theorem xd_393cc4f4 : decode (ia_code 281) 173 = .ok (.iadd, 1) := fdd_d (by decide +kernel)
set_option maxRecDepth 100000 in
theorem xd_57ab8f64 : decode (ia_code 281) 174 = .ok (.iconst 1, 1) := fdd_d (by decide +kernel)
set_option maxRecDepth 100000 in
theorem xd_e5b5870a : decode (ia_code 281) 175 = .ok (.sipush 250, 3) := fdd_d (by decide +kernel)
set_option maxRecDepth 100000 in
theorem xl_e352cbfa : ia_pl (ia_cls 281) 217 = some (1, 280, 0, 0, 1679) := by decide +kernel
set_option maxRecDepth 100000 in
theorem xn_eda6dc14 : ia_na 280 = 4 := by decide +kernel
set_option maxRecDepth 100000 in
theorem xc_8abdef2b : ia_mc 280 = 0 ∧ ia_ms 280 = 0 := ⟨by decide +kernel, by decide +kernel⟩
set_option maxRecDepth 100000 in
theorem xv_80098d93 : cm_rcv 280 [.inr (.inr (some 184))] = true := by decide +kernel
set_option maxRecDepth 100000 in
theorem xd_03404bc9 : decode (ia_code 281) 178 = .ok (.invokevirtual 217, 3) := fdd_d (by decide +kernel)
set_option maxRecDepth 100000 in
theorem xd_0a56c182 : decode (ia_code 281) 181 = .ok (.ifCond .eq 18, 3) := fdd_d (by decide +kernel)
set_option maxRecDepth 100000 in
theorem xd_208b7ff0 : decode (ia_code 281) 184 = .ok (.aload_n 0, 1) := fdd_d (by decide +kernel)
set_option maxRecDepth 100000 in
theorem xd_2df534a9 : decode (ia_code 281) 185 = .ok (.bipush 69, 2) := fdd_d (by decide +kernel)
set_option maxRecDepth 100000 in
theorem xd_310dbc10 : decode (ia_code 281) 187 = .ok (.iload_n 1, 1) := fdd_d (by decide +kernel)
set_option maxRecDepth 100000 in
theorem xd_87742154 : decode (ia_code 281) 188 = .ok (.iadd, 1) := fdd_d (by decide +kernel)
set_option maxRecDepth 100000 in
theorem xd_ee01ac9c : decode (ia_code 281) 189 = .ok (.iconst 0, 1) := fdd_d (by decide +kernel)
set_option maxRecDepth 100000 in
theorem xd_017c3bf4 : decode (ia_code 281) 190 = .ok (.sipush 199, 3) := fdd_d (by decide +kernel)
set_option maxRecDepth 100000 in
theorem xd_cd0c1759 : decode (ia_code 281) 193 = .ok (.invokevirtual 217, 3) := fdd_d (by decide +kernel)
set_option maxRecDepth 100000 in
theorem xd_9edd36e9 : decode (ia_code 281) 196 = .ok (.ifCond .ne 5, 3) := fdd_d (by decide +kernel)
set_option maxRecDepth 100000 in
theorem xd_5c44be5a : decode (ia_code 281) 201 = .ok (.aload_n 0, 1) := fdd_d (by decide +kernel)
set_option maxRecDepth 100000 in
theorem xd_d8c29d1d : decode (ia_code 281) 202 = .ok (.getfield 37, 3) := fdd_d (by decide +kernel)
set_option maxRecDepth 100000 in
theorem xd_14e48942 : decode (ia_code 281) 205 = .ok (.iconst 3, 1) := fdd_d (by decide +kernel)
set_option maxRecDepth 100000 in
theorem xd_1fd1b478 : decode (ia_code 281) 206 = .ok (.dup2, 1) := fdd_d (by decide +kernel)
set_option maxRecDepth 100000 in
theorem xd_55684af5 : decode (ia_code 281) 207 = .ok (.iaload, 1) := fdd_d (by decide +kernel)
set_option maxRecDepth 100000 in
theorem xd_9cee0be2 : decode (ia_code 281) 208 = .ok (.iconst 1, 1) := fdd_d (by decide +kernel)
set_option maxRecDepth 100000 in
theorem xd_ce2ec7fa : decode (ia_code 281) 209 = .ok (.iadd, 1) := fdd_d (by decide +kernel)
set_option maxRecDepth 100000 in
theorem xd_742f1538 : decode (ia_code 281) 210 = .ok (.iastore, 1) := fdd_d (by decide +kernel)
set_option maxRecDepth 100000 in
theorem xd_a9f6a3f6 : decode (ia_code 281) 211 = .ok (.iconst 1, 1) := fdd_d (by decide +kernel)
set_option maxRecDepth 100000 in
theorem xd_37d6e7c4 : decode (ia_code 281) 212 = .ok (.ireturn, 1) := fdd_d (by decide +kernel)
set_option maxRecDepth 100000 in
theorem xr_7954e2c3 : ia_ret 281 = some .boolean := by decide +kernel
set_option maxRecDepth 100000 in
theorem xd_75724648 : decode (ia_code 281) 199 = .ok (.iconst 0, 1) := fdd_d (by decide +kernel)
set_option maxRecDepth 100000 in
theorem xd_c43a8279 : decode (ia_code 281) 200 = .ok (.ireturn, 1) := fdd_d (by decide +kernel)
set_option maxRecDepth 100000 in
theorem xd_470e398f : decode (ia_code 281) 136 = .ok (.aload_n 0, 1) := fdd_d (by decide +kernel)
set_option maxRecDepth 100000 in
theorem xd_144fd0d7 : decode (ia_code 281) 137 = .ok (.iconst 3, 1) := fdd_d (by decide +kernel)
set_option maxRecDepth 100000 in
theorem xl_052a3a61 : ia_pl (ia_cls 281) 176 = some (1, 94, 0, 0, 1675) := by decide +kernel
set_option maxRecDepth 100000 in
theorem xd_a81b81d3 : decode (ia_code 281) 138 = .ok (.invokevirtual 176, 3) := fdd_d (by decide +kernel)
set_option maxRecDepth 100000 in
theorem xd_71a4abda : decode (ia_code 281) 141 = .ok (.ireturn, 1) := fdd_d (by decide +kernel)
set_option maxRecDepth 100000 in
theorem xd_57a6508b : decode (ia_code 281) 70 = .ok (.iconst 1, 1) := fdd_d (by decide +kernel)
set_option maxRecDepth 100000 in
theorem xd_cac89cd4 : decode (ia_code 281) 71 = .ok (.goto 4, 3) := fdd_d (by decide +kernel)
set_option maxRecDepth 100000 in
theorem xd_f1b593ef : decode (ia_code 281) 60 = .ok (.iconst 0, 1) := fdd_d (by decide +kernel)
set_option maxRecDepth 100000 in
theorem xd_40d289e1 : decode (ia_code 281) 61 = .ok (.ireturn, 1) := fdd_d (by decide +kernel)
set_option maxRecDepth 100000 in
theorem xd_d3d9fea8 : decode (ia_code 281) 38 = .ok (.iconst 0, 1) := fdd_d (by decide +kernel)
set_option maxRecDepth 100000 in
theorem xd_2ea97757 : decode (ia_code 281) 39 = .ok (.ireturn, 1) := fdd_d (by decide +kernel)
set_option maxRecDepth 100000 in
theorem xd_35f3ed62 : decode (ia_code 281) 13 = .ok (.aload_n 0, 1) := fdd_d (by decide +kernel)
set_option maxRecDepth 100000 in
theorem xd_2e2d3e81 : decode (ia_code 281) 14 = .ok (.iconst 4, 1) := fdd_d (by decide +kernel)
set_option maxRecDepth 100000 in
theorem xd_b26369d5 : decode (ia_code 281) 15 = .ok (.invokevirtual 176, 3) := fdd_d (by decide +kernel)
set_option maxRecDepth 100000 in
theorem xd_9f233d49 : decode (ia_code 281) 18 = .ok (.ireturn, 1) := fdd_d (by decide +kernel)
set_option maxRecDepth 100000 in
theorem xd_1aa743d3 : decode (ia_code 273) 0 = .ok (.aload_n 0, 1) := fdd_d (by decide +kernel)
set_option maxRecDepth 100000 in
theorem xd_93a1fdb2 : decode (ia_code 273) 1 = .ok (.ldc2_w 96, 3) := fdd_d (by decide +kernel)
set_option maxRecDepth 100000 in
theorem xl_da86ceb0 : ia_pl (ia_cls 273) 96 = some (9, 1936744814, 0, 0, 1470) := by decide +kernel
set_option maxRecDepth 100000 in
theorem xl_6b97710b : ia_pl (ia_cls 273) 210 = some (1, 120, 0, 0, 1664) := by decide +kernel
set_option maxRecDepth 100000 in
theorem xd_1e1b3869 : decode (ia_code 273) 4 = .ok (.invokevirtual 210, 3) := fdd_d (by decide +kernel)
set_option maxRecDepth 100000 in
theorem xd_31112b96 : decode (ia_code 273) 7 = .ok (.ifCond .eq 28, 3) := fdd_d (by decide +kernel)
set_option maxRecDepth 100000 in
theorem xd_97a8f966 : decode (ia_code 273) 10 = .ok (.aload_n 0, 1) := fdd_d (by decide +kernel)
set_option maxRecDepth 100000 in
theorem xd_9539b4e2 : decode (ia_code 273) 11 = .ok (.iconst 0, 1) := fdd_d (by decide +kernel)
set_option maxRecDepth 100000 in
theorem xl_4f99a89c : ia_pl (ia_cls 273) 214 = some (1, 263, 0, 0, 1668) := by decide +kernel
set_option maxRecDepth 100000 in
theorem xn_796f6281 : ia_na 263 = 2 := by decide +kernel
set_option maxRecDepth 100000 in
theorem xc_e3c2a358 : ia_mc 263 = 0 ∧ ia_ms 263 = 0 := ⟨by decide +kernel, by decide +kernel⟩
set_option maxRecDepth 100000 in
theorem xv_ff7055c3 : cm_rcv 263 [.inr (.inr (some 184))] = true := by decide +kernel
set_option maxRecDepth 100000 in
theorem xd_6ff8e294 : decode (ia_code 273) 12 = .ok (.invokevirtual 214, 3) := fdd_d (by decide +kernel)
set_option maxRecDepth 100000 in
theorem xd_9c694986 : decode (ia_code 273) 15 = .ok (.ifCond .eq 18, 3) := fdd_d (by decide +kernel)
set_option maxRecDepth 100000 in
theorem xd_9711ba40 : decode (ia_code 273) 18 = .ok (.aload_n 0, 1) := fdd_d (by decide +kernel)
set_option maxRecDepth 100000 in
theorem xd_d9fa3422 : decode (ia_code 273) 19 = .ok (.iconst 4, 1) := fdd_d (by decide +kernel)
set_option maxRecDepth 100000 in
theorem xd_c994c0af : decode (ia_code 273) 20 = .ok (.iconst 1, 1) := fdd_d (by decide +kernel)
set_option maxRecDepth 100000 in
theorem xd_54493b70 : decode (ia_code 273) 21 = .ok (.bipush 20, 2) := fdd_d (by decide +kernel)
set_option maxRecDepth 100000 in
theorem xl_635aa528 : ia_pl (ia_cls 273) 217 = some (1, 280, 0, 0, 1679) := by decide +kernel
set_option maxRecDepth 100000 in
theorem xd_efa0782a : decode (ia_code 273) 23 = .ok (.invokevirtual 217, 3) := fdd_d (by decide +kernel)
set_option maxRecDepth 100000 in
theorem xd_eb4aeb14 : decode (ia_code 273) 26 = .ok (.ifCond .eq 7, 3) := fdd_d (by decide +kernel)
set_option maxRecDepth 100000 in
theorem xd_67ff826f : decode (ia_code 273) 29 = .ok (.iconst 1, 1) := fdd_d (by decide +kernel)
set_option maxRecDepth 100000 in
theorem xd_86360039 : decode (ia_code 273) 30 = .ok (.goto 4, 3) := fdd_d (by decide +kernel)
set_option maxRecDepth 100000 in
theorem xd_9bf489c3 : decode (ia_code 273) 34 = .ok (.ireturn, 1) := fdd_d (by decide +kernel)
set_option maxRecDepth 100000 in
theorem xr_5b17d66c : ia_ret 273 = some .boolean := by decide +kernel
set_option maxRecDepth 100000 in
theorem xd_56ffae8b : decode (ia_code 273) 33 = .ok (.iconst 0, 1) := fdd_d (by decide +kernel)
set_option maxRecDepth 100000 in
theorem xd_d5bc7e2e : decode (ia_code 273) 35 = .ok (.aload_n 0, 1) := fdd_d (by decide +kernel)
set_option maxRecDepth 100000 in
theorem xd_0e1cadc7 : decode (ia_code 273) 36 = .ok (.ldc2_w 98, 3) := fdd_d (by decide +kernel)
set_option maxRecDepth 100000 in
theorem xl_6f9f0c0d : ia_pl (ia_cls 273) 98 = some (9, 131294708393330, 0, 0, 1471) := by decide +kernel
set_option maxRecDepth 100000 in
theorem xd_c6aa36ba : decode (ia_code 273) 39 = .ok (.invokevirtual 210, 3) := fdd_d (by decide +kernel)
set_option maxRecDepth 100000 in
theorem xd_53a38f7b : decode (ia_code 273) 42 = .ok (.ifCond .eq 42, 3) := fdd_d (by decide +kernel)
set_option maxRecDepth 100000 in
theorem xd_e4a44959 : decode (ia_code 273) 45 = .ok (.aload_n 0, 1) := fdd_d (by decide +kernel)
set_option maxRecDepth 100000 in
theorem xd_56afe855 : decode (ia_code 273) 46 = .ok (.iconst 1, 1) := fdd_d (by decide +kernel)
set_option maxRecDepth 100000 in
theorem xd_dad0b681 : decode (ia_code 273) 47 = .ok (.invokevirtual 214, 3) := fdd_d (by decide +kernel)
set_option maxRecDepth 100000 in
theorem xd_920b745c : decode (ia_code 273) 50 = .ok (.ifCond .eq 32, 3) := fdd_d (by decide +kernel)
set_option maxRecDepth 100000 in
theorem xd_884b5e04 : decode (ia_code 273) 53 = .ok (.aload_n 0, 1) := fdd_d (by decide +kernel)
set_option maxRecDepth 100000 in
theorem xd_160c6dc1 : decode (ia_code 273) 54 = .ok (.iconst 5, 1) := fdd_d (by decide +kernel)
set_option maxRecDepth 100000 in
theorem xd_c9c48671 : decode (ia_code 273) 55 = .ok (.iconst 0, 1) := fdd_d (by decide +kernel)
set_option maxRecDepth 100000 in
theorem xd_083529d0 : decode (ia_code 273) 56 = .ok (.sipush 399, 3) := fdd_d (by decide +kernel)
set_option maxRecDepth 100000 in
theorem xd_3dc5fd95 : decode (ia_code 273) 59 = .ok (.invokevirtual 217, 3) := fdd_d (by decide +kernel)
set_option maxRecDepth 100000 in
theorem xd_fc51c53c : decode (ia_code 273) 62 = .ok (.ifCond .eq 20, 3) := fdd_d (by decide +kernel)
set_option maxRecDepth 100000 in
theorem xd_3d9f8556 : decode (ia_code 273) 65 = .ok (.aload_n 0, 1) := fdd_d (by decide +kernel)
set_option maxRecDepth 100000 in
theorem xd_e947b896 : decode (ia_code 273) 66 = .ok (.bipush 6, 2) := fdd_d (by decide +kernel)
set_option maxRecDepth 100000 in
theorem xd_708b473c : decode (ia_code 273) 68 = .ok (.iconst 1, 1) := fdd_d (by decide +kernel)
set_option maxRecDepth 100000 in
theorem xd_52a5ac47 : decode (ia_code 273) 69 = .ok (.sipush 200, 3) := fdd_d (by decide +kernel)
set_option maxRecDepth 100000 in
theorem xd_61178f7b : decode (ia_code 273) 72 = .ok (.invokevirtual 217, 3) := fdd_d (by decide +kernel)
set_option maxRecDepth 100000 in
theorem xd_16d076e8 : decode (ia_code 273) 75 = .ok (.ifCond .eq 7, 3) := fdd_d (by decide +kernel)
set_option maxRecDepth 100000 in
theorem xd_ebf8ade8 : decode (ia_code 273) 78 = .ok (.iconst 1, 1) := fdd_d (by decide +kernel)
set_option maxRecDepth 100000 in
theorem xd_6c73e976 : decode (ia_code 273) 79 = .ok (.goto 4, 3) := fdd_d (by decide +kernel)
set_option maxRecDepth 100000 in
theorem xd_722884db : decode (ia_code 273) 83 = .ok (.ireturn, 1) := fdd_d (by decide +kernel)
set_option maxRecDepth 100000 in
theorem xd_378bb050 : decode (ia_code 273) 82 = .ok (.iconst 0, 1) := fdd_d (by decide +kernel)
set_option maxRecDepth 100000 in
theorem xd_c4dc016c : decode (ia_code 273) 84 = .ok (.aload_n 0, 1) := fdd_d (by decide +kernel)
set_option maxRecDepth 100000 in
theorem xd_4a715e50 : decode (ia_code 273) 85 = .ok (.ldc2_w 100, 3) := fdd_d (by decide +kernel)
set_option maxRecDepth 100000 in
theorem xl_c6a4e567 : ia_pl (ia_cls 273) 100 = some (9, 123581014175598, 0, 0, 1472) := by decide +kernel
set_option maxRecDepth 100000 in
theorem xd_e246e280 : decode (ia_code 273) 88 = .ok (.invokevirtual 210, 3) := fdd_d (by decide +kernel)
set_option maxRecDepth 100000 in
theorem xd_e4448cf7 : decode (ia_code 273) 91 = .ok (.ifCond .eq 95, 3) := fdd_d (by decide +kernel)
set_option maxRecDepth 100000 in
theorem xd_45f9644b : decode (ia_code 273) 94 = .ok (.aload_n 0, 1) := fdd_d (by decide +kernel)
set_option maxRecDepth 100000 in
theorem xd_7d7bba27 : decode (ia_code 273) 95 = .ok (.getfield 37, 3) := fdd_d (by decide +kernel)
set_option maxRecDepth 100000 in
theorem xf_d8b79466 : wk_gf 273 37 184 7 (187 + 3) = true := by decide +kernel
set_option maxRecDepth 100000 in
theorem xd_3bebb504 : decode (ia_code 273) 98 = .ok (.iconst 0, 1) := fdd_d (by decide +kernel)
set_option maxRecDepth 100000 in
theorem xd_08c850f9 : decode (ia_code 273) 99 = .ok (.iaload, 1) := fdd_d (by decide +kernel)
set_option maxRecDepth 100000 in
theorem xd_2eda501c : decode (ia_code 273) 100 = .ok (.istore_n 1, 1) := fdd_d (by decide +kernel)
set_option maxRecDepth 100000 in
theorem xm_ce8e43a0 : ia_maxL 273 = 2 := by decide +kernel
set_option maxRecDepth 100000 in
theorem xd_511bc4f1 : decode (ia_code 273) 101 = .ok (.iload_n 1, 1) := fdd_d (by decide +kernel)
set_option maxRecDepth 100000 in
theorem xd_d523e359 : decode (ia_code 273) 102 = .ok (.bipush 6, 2) := fdd_d (by decide +kernel)
set_option maxRecDepth 100000 in
theorem xd_83ebf113 : decode (ia_code 273) 104 = .ok (.if_icmp .ne 9, 3) := fdd_d (by decide +kernel)
set_option maxRecDepth 100000 in
theorem xd_5acb88e2 : decode (ia_code 273) 113 = .ok (.aload_n 0, 1) := fdd_d (by decide +kernel)
set_option maxRecDepth 100000 in
theorem xl_a3c25762 : ia_pl (ia_cls 273) 179 = some (1, 129, 0, 0, 1646) := by decide +kernel
set_option maxRecDepth 100000 in
theorem xd_472a9511 : decode (ia_code 273) 114 = .ok (.invokevirtual 179, 3) := fdd_d (by decide +kernel)
set_option maxRecDepth 100000 in
theorem xd_5a972971 : decode (ia_code 273) 117 = .ok (.aload_n 0, 1) := fdd_d (by decide +kernel)
set_option maxRecDepth 100000 in
theorem xd_25cff41d : decode (ia_code 273) 118 = .ok (.bipush 16, 2) := fdd_d (by decide +kernel)
set_option maxRecDepth 100000 in
theorem xd_1353e22a : decode (ia_code 273) 120 = .ok (.iload_n 1, 1) := fdd_d (by decide +kernel)
set_option maxRecDepth 100000 in
theorem xd_0ce1faed : decode (ia_code 273) 121 = .ok (.iadd, 1) := fdd_d (by decide +kernel)
set_option maxRecDepth 100000 in
theorem xl_0a0d2674 : ia_pl (ia_cls 273) 220 = some (1, 256, 0, 0, 1690) := by decide +kernel
set_option maxRecDepth 100000 in
theorem xd_c4500617 : decode (ia_code 273) 122 = .ok (.invokevirtual 220, 3) := fdd_d (by decide +kernel)
set_option maxRecDepth 100000 in
theorem xd_63b3c062 : decode (ia_code 273) 125 = .ok (.ifCond .eq 47, 3) := fdd_d (by decide +kernel)
set_option maxRecDepth 100000 in
theorem xd_74895bd1 : decode (ia_code 273) 128 = .ok (.aload_n 0, 1) := fdd_d (by decide +kernel)
set_option maxRecDepth 100000 in
theorem xd_85ee9240 : decode (ia_code 273) 129 = .ok (.bipush 7, 2) := fdd_d (by decide +kernel)
set_option maxRecDepth 100000 in
theorem xd_09056dd9 : decode (ia_code 273) 131 = .ok (.iload_n 1, 1) := fdd_d (by decide +kernel)
set_option maxRecDepth 100000 in
theorem xd_3185a7d7 : decode (ia_code 273) 132 = .ok (.iadd, 1) := fdd_d (by decide +kernel)
set_option maxRecDepth 100000 in
theorem xd_dbf0143e : decode (ia_code 273) 133 = .ok (.iconst 0, 1) := fdd_d (by decide +kernel)
set_option maxRecDepth 100000 in
theorem xd_53671735 : decode (ia_code 273) 134 = .ok (.bipush 9, 2) := fdd_d (by decide +kernel)
set_option maxRecDepth 100000 in
theorem xd_3aa10e47 : decode (ia_code 273) 136 = .ok (.invokevirtual 217, 3) := fdd_d (by decide +kernel)
set_option maxRecDepth 100000 in
theorem xd_294016c8 : decode (ia_code 273) 139 = .ok (.ifCond .eq 33, 3) := fdd_d (by decide +kernel)
set_option maxRecDepth 100000 in
theorem xd_299b994e : decode (ia_code 273) 142 = .ok (.aload_n 0, 1) := fdd_d (by decide +kernel)
set_option maxRecDepth 100000 in
theorem xd_7350fa0e : decode (ia_code 273) 143 = .ok (.bipush 13, 2) := fdd_d (by decide +kernel)
set_option maxRecDepth 100000 in
theorem xd_3841fb3d : decode (ia_code 273) 145 = .ok (.iload_n 1, 1) := fdd_d (by decide +kernel)
set_option maxRecDepth 100000 in
theorem xd_7013fb9a : decode (ia_code 273) 146 = .ok (.iadd, 1) := fdd_d (by decide +kernel)
set_option maxRecDepth 100000 in
theorem xd_f1e81f90 : decode (ia_code 273) 147 = .ok (.iconst 0, 1) := fdd_d (by decide +kernel)
set_option maxRecDepth 100000 in
theorem xd_ea174b79 : decode (ia_code 273) 148 = .ok (.sipush 199, 3) := fdd_d (by decide +kernel)
set_option maxRecDepth 100000 in
theorem xd_5b59834f : decode (ia_code 273) 151 = .ok (.invokevirtual 217, 3) := fdd_d (by decide +kernel)
set_option maxRecDepth 100000 in
theorem xd_dbab2e12 : decode (ia_code 273) 154 = .ok (.ifCond .eq 18, 3) := fdd_d (by decide +kernel)
set_option maxRecDepth 100000 in
theorem xd_3391b72e : decode (ia_code 273) 157 = .ok (.aload_n 0, 1) := fdd_d (by decide +kernel)
set_option maxRecDepth 100000 in
theorem xd_ce99fd93 : decode (ia_code 273) 158 = .ok (.bipush 19, 2) := fdd_d (by decide +kernel)
set_option maxRecDepth 100000 in
theorem xd_7a557c75 : decode (ia_code 273) 160 = .ok (.iload_n 1, 1) := fdd_d (by decide +kernel)
set_option maxRecDepth 100000 in
theorem xd_e589f70f : decode (ia_code 273) 161 = .ok (.iadd, 1) := fdd_d (by decide +kernel)
set_option maxRecDepth 100000 in
theorem xd_57f73bb9 : decode (ia_code 273) 162 = .ok (.iconst 0, 1) := fdd_d (by decide +kernel)
set_option maxRecDepth 100000 in
theorem xd_c38db6d5 : decode (ia_code 273) 163 = .ok (.sipush 999, 3) := fdd_d (by decide +kernel)
set_option maxRecDepth 100000 in
theorem xd_baf111c7 : decode (ia_code 273) 166 = .ok (.invokevirtual 217, 3) := fdd_d (by decide +kernel)
set_option maxRecDepth 100000 in
theorem xd_452e071c : decode (ia_code 273) 169 = .ok (.ifCond .ne 5, 3) := fdd_d (by decide +kernel)
set_option maxRecDepth 100000 in
theorem xd_9c4f421c : decode (ia_code 273) 174 = .ok (.aload_n 0, 1) := fdd_d (by decide +kernel)
set_option maxRecDepth 100000 in
theorem xd_5a8c2dff : decode (ia_code 273) 175 = .ok (.getfield 37, 3) := fdd_d (by decide +kernel)
set_option maxRecDepth 100000 in
theorem xd_5b973eed : decode (ia_code 273) 178 = .ok (.iconst 0, 1) := fdd_d (by decide +kernel)
set_option maxRecDepth 100000 in
theorem xd_02ba0eb1 : decode (ia_code 273) 179 = .ok (.dup2, 1) := fdd_d (by decide +kernel)
set_option maxRecDepth 100000 in
theorem xd_b52a3897 : decode (ia_code 273) 180 = .ok (.iaload, 1) := fdd_d (by decide +kernel)
set_option maxRecDepth 100000 in
theorem xd_be9c8e15 : decode (ia_code 273) 181 = .ok (.iconst 1, 1) := fdd_d (by decide +kernel)
set_option maxRecDepth 100000 in
theorem xd_9b723cfb : decode (ia_code 273) 182 = .ok (.iadd, 1) := fdd_d (by decide +kernel)
set_option maxRecDepth 100000 in
theorem xd_d2a23745 : decode (ia_code 273) 183 = .ok (.iastore, 1) := fdd_d (by decide +kernel)
set_option maxRecDepth 100000 in
theorem xd_f51579d5 : decode (ia_code 273) 184 = .ok (.iconst 1, 1) := fdd_d (by decide +kernel)
set_option maxRecDepth 100000 in
theorem xd_83a2c102 : decode (ia_code 273) 185 = .ok (.ireturn, 1) := fdd_d (by decide +kernel)
set_option maxRecDepth 100000 in
theorem xd_cc84d16d : decode (ia_code 273) 172 = .ok (.iconst 0, 1) := fdd_d (by decide +kernel)
set_option maxRecDepth 100000 in
theorem xd_a905dc84 : decode (ia_code 273) 173 = .ok (.ireturn, 1) := fdd_d (by decide +kernel)
set_option maxRecDepth 100000 in
theorem xd_dbb24c56 : decode (ia_code 273) 107 = .ok (.aload_n 0, 1) := fdd_d (by decide +kernel)
set_option maxRecDepth 100000 in
theorem xd_d8ae0083 : decode (ia_code 273) 108 = .ok (.iconst 4, 1) := fdd_d (by decide +kernel)
set_option maxRecDepth 100000 in
theorem xl_682323f4 : ia_pl (ia_cls 273) 176 = some (1, 94, 0, 0, 1675) := by decide +kernel
set_option maxRecDepth 100000 in
theorem xd_76e70a77 : decode (ia_code 273) 109 = .ok (.invokevirtual 176, 3) := fdd_d (by decide +kernel)
set_option maxRecDepth 100000 in
theorem xd_442e059a : decode (ia_code 273) 112 = .ok (.ireturn, 1) := fdd_d (by decide +kernel)
set_option maxRecDepth 100000 in
theorem xd_92cc9a3c : decode (ia_code 273) 186 = .ok (.aload_n 0, 1) := fdd_d (by decide +kernel)
set_option maxRecDepth 100000 in
theorem xd_5b8c4c5f : decode (ia_code 273) 187 = .ok (.ldc2_w 102, 3) := fdd_d (by decide +kernel)
set_option maxRecDepth 100000 in
theorem xl_e9c693cd : ia_pl (ia_cls 273) 102 = some (9, 1718579044, 0, 0, 1473) := by decide +kernel
set_option maxRecDepth 100000 in
theorem xd_750099f0 : decode (ia_code 273) 190 = .ok (.invokevirtual 210, 3) := fdd_d (by decide +kernel)
set_option maxRecDepth 100000 in
theorem xd_560f00c4 : decode (ia_code 273) 193 = .ok (.ifCond .eq 77, 3) := fdd_d (by decide +kernel)
set_option maxRecDepth 100000 in
theorem xd_13e9ff1b : decode (ia_code 273) 196 = .ok (.aload_n 0, 1) := fdd_d (by decide +kernel)
set_option maxRecDepth 100000 in
theorem xd_a01dfbaf : decode (ia_code 273) 197 = .ok (.getfield 37, 3) := fdd_d (by decide +kernel)
set_option maxRecDepth 100000 in
theorem xd_f11300db : decode (ia_code 273) 200 = .ok (.iconst 1, 1) := fdd_d (by decide +kernel)
set_option maxRecDepth 100000 in
theorem xd_ccc7a7e7 : decode (ia_code 273) 201 = .ok (.iaload, 1) := fdd_d (by decide +kernel)
set_option maxRecDepth 100000 in
theorem xd_05b671eb : decode (ia_code 273) 202 = .ok (.istore_n 1, 1) := fdd_d (by decide +kernel)
set_option maxRecDepth 100000 in
theorem xd_8960a14b : decode (ia_code 273) 203 = .ok (.iload_n 1, 1) := fdd_d (by decide +kernel)
set_option maxRecDepth 100000 in
theorem xd_65521cab : decode (ia_code 273) 204 = .ok (.iconst 4, 1) := fdd_d (by decide +kernel)
set_option maxRecDepth 100000 in
theorem xd_486f813e : decode (ia_code 273) 205 = .ok (.if_icmp .ne 9, 3) := fdd_d (by decide +kernel)
set_option maxRecDepth 100000 in
theorem xd_199fa61f : decode (ia_code 273) 214 = .ok (.aload_n 0, 1) := fdd_d (by decide +kernel)
set_option maxRecDepth 100000 in
theorem xd_12daccd5 : decode (ia_code 273) 215 = .ok (.invokevirtual 179, 3) := fdd_d (by decide +kernel)
set_option maxRecDepth 100000 in
theorem xd_197a44aa : decode (ia_code 273) 218 = .ok (.aload_n 0, 1) := fdd_d (by decide +kernel)
set_option maxRecDepth 100000 in
theorem xd_f8457cf4 : decode (ia_code 273) 219 = .ok (.bipush 22, 2) := fdd_d (by decide +kernel)
set_option maxRecDepth 100000 in
theorem xd_bdcdbead : decode (ia_code 273) 221 = .ok (.iload_n 1, 1) := fdd_d (by decide +kernel)
set_option maxRecDepth 100000 in
theorem xd_49ce6a45 : decode (ia_code 273) 222 = .ok (.iadd, 1) := fdd_d (by decide +kernel)
set_option maxRecDepth 100000 in
theorem xd_91a05fd3 : decode (ia_code 273) 223 = .ok (.invokevirtual 220, 3) := fdd_d (by decide +kernel)
set_option maxRecDepth 100000 in
theorem xd_da0a6a65 : decode (ia_code 273) 226 = .ok (.ifCond .eq 30, 3) := fdd_d (by decide +kernel)
set_option maxRecDepth 100000 in
theorem xd_da170756 : decode (ia_code 273) 229 = .ok (.aload_n 0, 1) := fdd_d (by decide +kernel)
set_option maxRecDepth 100000 in
theorem xd_0894c519 : decode (ia_code 273) 230 = .ok (.bipush 25, 2) := fdd_d (by decide +kernel)
set_option maxRecDepth 100000 in
theorem xd_4a0de2b7 : decode (ia_code 273) 232 = .ok (.iload_n 1, 1) := fdd_d (by decide +kernel)
set_option maxRecDepth 100000 in
theorem xd_717e5cfc : decode (ia_code 273) 233 = .ok (.iadd, 1) := fdd_d (by decide +kernel)
set_option maxRecDepth 100000 in
theorem xd_db57aae6 : decode (ia_code 273) 234 = .ok (.iconst 1, 1) := fdd_d (by decide +kernel)
set_option maxRecDepth 100000 in
theorem xd_c0ca4338 : decode (ia_code 273) 235 = .ok (.bipush 60, 2) := fdd_d (by decide +kernel)
set_option maxRecDepth 100000 in
theorem xd_6f515783 : decode (ia_code 273) 237 = .ok (.invokevirtual 217, 3) := fdd_d (by decide +kernel)
set_option maxRecDepth 100000 in
theorem xd_a1676d47 : decode (ia_code 273) 240 = .ok (.ifCond .eq 16, 3) := fdd_d (by decide +kernel)
set_option maxRecDepth 100000 in
theorem xd_8705c5c9 : decode (ia_code 273) 243 = .ok (.aload_n 0, 1) := fdd_d (by decide +kernel)
set_option maxRecDepth 100000 in
theorem xd_fc20befc : decode (ia_code 273) 244 = .ok (.bipush 29, 2) := fdd_d (by decide +kernel)
set_option maxRecDepth 100000 in
theorem xd_7b497453 : decode (ia_code 273) 246 = .ok (.iload_n 1, 1) := fdd_d (by decide +kernel)
set_option maxRecDepth 100000 in
theorem xd_30e800b1 : decode (ia_code 273) 247 = .ok (.iadd, 1) := fdd_d (by decide +kernel)
set_option maxRecDepth 100000 in
theorem xd_756caef8 : decode (ia_code 273) 248 = .ok (.iconst 0, 1) := fdd_d (by decide +kernel)
set_option maxRecDepth 100000 in
theorem xd_aaa44548 : decode (ia_code 273) 249 = .ok (.iconst 5, 1) := fdd_d (by decide +kernel)
set_option maxRecDepth 100000 in
theorem xd_0ea9da8b : decode (ia_code 273) 250 = .ok (.invokevirtual 217, 3) := fdd_d (by decide +kernel)
set_option maxRecDepth 100000 in
theorem xd_b4074b2b : decode (ia_code 273) 253 = .ok (.ifCond .ne 5, 3) := fdd_d (by decide +kernel)
set_option maxRecDepth 100000 in
theorem xd_707cdaf5 : decode (ia_code 273) 258 = .ok (.aload_n 0, 1) := fdd_d (by decide +kernel)
set_option maxRecDepth 100000 in
theorem xd_2be4921f : decode (ia_code 273) 259 = .ok (.getfield 37, 3) := fdd_d (by decide +kernel)
set_option maxRecDepth 100000 in
theorem xd_3289bb21 : decode (ia_code 273) 262 = .ok (.iconst 1, 1) := fdd_d (by decide +kernel)
set_option maxRecDepth 100000 in
theorem xd_687406ac : decode (ia_code 273) 263 = .ok (.dup2, 1) := fdd_d (by decide +kernel)
set_option maxRecDepth 100000 in
theorem xd_1170723e : decode (ia_code 273) 264 = .ok (.iaload, 1) := fdd_d (by decide +kernel)
set_option maxRecDepth 100000 in
theorem xd_57508561 : decode (ia_code 273) 265 = .ok (.iconst 1, 1) := fdd_d (by decide +kernel)
set_option maxRecDepth 100000 in
theorem xd_ab0eb0a1 : decode (ia_code 273) 266 = .ok (.iadd, 1) := fdd_d (by decide +kernel)
set_option maxRecDepth 100000 in
theorem xd_7d0c7643 : decode (ia_code 273) 267 = .ok (.iastore, 1) := fdd_d (by decide +kernel)
set_option maxRecDepth 100000 in
theorem xd_a59a54a1 : decode (ia_code 273) 268 = .ok (.iconst 1, 1) := fdd_d (by decide +kernel)
set_option maxRecDepth 100000 in
theorem xd_09fe8972 : decode (ia_code 273) 269 = .ok (.ireturn, 1) := fdd_d (by decide +kernel)
set_option maxRecDepth 100000 in
theorem xd_25ad38ac : decode (ia_code 273) 256 = .ok (.iconst 0, 1) := fdd_d (by decide +kernel)
set_option maxRecDepth 100000 in
theorem xd_e3492882 : decode (ia_code 273) 257 = .ok (.ireturn, 1) := fdd_d (by decide +kernel)
set_option maxRecDepth 100000 in
theorem xd_985f218d : decode (ia_code 273) 208 = .ok (.aload_n 0, 1) := fdd_d (by decide +kernel)
set_option maxRecDepth 100000 in
theorem xd_9798cd6b : decode (ia_code 273) 209 = .ok (.iconst 4, 1) := fdd_d (by decide +kernel)
set_option maxRecDepth 100000 in
theorem xd_a5f21091 : decode (ia_code 273) 210 = .ok (.invokevirtual 176, 3) := fdd_d (by decide +kernel)
set_option maxRecDepth 100000 in
theorem xd_ad11bf39 : decode (ia_code 273) 213 = .ok (.ireturn, 1) := fdd_d (by decide +kernel)
set_option maxRecDepth 100000 in
theorem xd_a9fe55dc : decode (ia_code 273) 270 = .ok (.aload_n 0, 1) := fdd_d (by decide +kernel)
set_option maxRecDepth 100000 in
theorem xd_74fd6948 : decode (ia_code 273) 271 = .ok (.ldc2_w 104, 3) := fdd_d (by decide +kernel)
set_option maxRecDepth 100000 in
theorem xl_c8d1fd23 : ia_pl (ia_cls 273) 104 = some (9, 30792258880630375, 0, 0, 1474) := by decide +kernel
set_option maxRecDepth 100000 in
theorem xd_bfd3a8ca : decode (ia_code 273) 274 = .ok (.invokevirtual 210, 3) := fdd_d (by decide +kernel)
set_option maxRecDepth 100000 in
theorem xd_75e08b4d : decode (ia_code 273) 277 = .ok (.ifCond .eq 8, 3) := fdd_d (by decide +kernel)
set_option maxRecDepth 100000 in
theorem xd_4aeb5e15 : decode (ia_code 273) 280 = .ok (.aload_n 0, 1) := fdd_d (by decide +kernel)
set_option maxRecDepth 100000 in
theorem xl_cffc8e67 : ia_pl (ia_cls 273) 223 = some (1, 282, 0, 0, 1702) := by decide +kernel
set_option maxRecDepth 100000 in
theorem xn_e70c7bfb : ia_na 282 = 1 := by decide +kernel
set_option maxRecDepth 100000 in
theorem xc_1deb6fa2 : ia_mc 282 = 0 ∧ ia_ms 282 = 0 := ⟨by decide +kernel, by decide +kernel⟩
set_option maxRecDepth 100000 in
theorem xv_edecac75 : cm_rcv 282 [.inr (.inr (some 184))] = true := by decide +kernel
set_option maxRecDepth 100000 in
theorem xd_101ecde0 : decode (ia_code 273) 281 = .ok (.invokevirtual 223, 3) := fdd_d (by decide +kernel)
set_option maxRecDepth 100000 in
theorem xd_6a9d7ba1 : decode (ia_code 273) 284 = .ok (.ireturn, 1) := fdd_d (by decide +kernel)
set_option maxRecDepth 100000 in
theorem xd_d1c41552 : decode (ia_code 273) 285 = .ok (.aload_n 0, 1) := fdd_d (by decide +kernel)
set_option maxRecDepth 100000 in
theorem xd_dd7e6240 : decode (ia_code 273) 286 = .ok (.ldc2_w 106, 3) := fdd_d (by decide +kernel)
set_option maxRecDepth 100000 in
theorem xl_dabbeb79 : ia_pl (ia_cls 273) 106 = some (9, 1684365940, 0, 0, 1475) := by decide +kernel
set_option maxRecDepth 100000 in
theorem xd_a6158316 : decode (ia_code 273) 289 = .ok (.invokevirtual 210, 3) := fdd_d (by decide +kernel)
set_option maxRecDepth 100000 in
theorem xd_f9f24fe4 : decode (ia_code 273) 292 = .ok (.ifCond .eq 10, 3) := fdd_d (by decide +kernel)
set_option maxRecDepth 100000 in
theorem xd_50e17075 : decode (ia_code 273) 295 = .ok (.aload_n 0, 1) := fdd_d (by decide +kernel)
set_option maxRecDepth 100000 in
theorem xl_d06cddf8 : ia_pl (ia_cls 273) 226 = some (1, 281, 0, 0, 1714) := by decide +kernel
set_option maxRecDepth 100000 in
theorem xn_a0ac012b : ia_na 281 = 1 := by decide +kernel
set_option maxRecDepth 100000 in
theorem xc_2cae2c4f : ia_mc 281 = 0 ∧ ia_ms 281 = 0 := ⟨by decide +kernel, by decide +kernel⟩
set_option maxRecDepth 100000 in
theorem xv_b6fb1d60 : cm_rcv 281 [.inr (.inr (some 184))] = true := by decide +kernel
set_option maxRecDepth 100000 in
theorem xd_0193dd0d : decode (ia_code 273) 296 = .ok (.invokevirtual 226, 3) := fdd_d (by decide +kernel)
set_option maxRecDepth 100000 in
theorem xd_99b0a383 : decode (ia_code 273) 299 = .ok (.goto 8, 3) := fdd_d (by decide +kernel)
set_option maxRecDepth 100000 in
theorem xd_33b33596 : decode (ia_code 273) 307 = .ok (.ireturn, 1) := fdd_d (by decide +kernel)
set_option maxRecDepth 100000 in
theorem xd_d0fb214c : decode (ia_code 273) 302 = .ok (.aload_n 0, 1) := fdd_d (by decide +kernel)
set_option maxRecDepth 100000 in
theorem xd_494ec8bc : decode (ia_code 273) 303 = .ok (.iconst 1, 1) := fdd_d (by decide +kernel)
set_option maxRecDepth 100000 in
theorem xd_5945268c : decode (ia_code 273) 304 = .ok (.invokevirtual 176, 3) := fdd_d (by decide +kernel)
/-! ## the reference's debts and lines (wip/p4/gen9vp.py) -/
def ps_dq (h : Nat → Int) (u v : Int) (i : Nat) : Prop := v = u ∨ ∃ q, q < i ∧ h (39 + q) = u ∧ h (49 + q) = v
theorem ps_dq_y {h : Nat → Int} {u v : Int} {i : Nat} (a : ps_dq h u v i) : ps_dq h u v (i + 1) := a.imp id (fun ⟨q, x, y⟩ => ⟨q, by omega, y⟩)
theorem ps_dq_z {h : Nat → Int} {u v : Int} {i : Nat} (a : h (39 + i) = u) (b : h (49 + i) = v) : ps_dq h u v (i + 1) := .inr ⟨i, by omega, a, b⟩
theorem ps_dq_n {h : Nat → Int} {u v : Int} {i : Nat} (a : ¬ ps_dq h u v i) (b : ¬ (h (39 + i) = u ∧ h (49 + i) = v)) : ¬ ps_dq h u v (i + 1) := by
  intro z
  rcases z with z | ⟨q, x, y⟩
  · exact a (.inl z)
  · by_cases e : q = i
    · rw [e] at y
      exact b y
    · exact a (.inr ⟨q, by omega, y⟩)
theorem cr_dlp {w : cm_W} {h : Nat → Int} {k : Nat} {vk vm : Int32} {u v : Int} (hvk : vk.toInt = (k : Int)) (hk10 : k ≤ 10) (hm : vm.toInt = u) (hg : (w.1 184 18).toInt = v) (hd : ∀ i, i < k → (w.1 187 (39 + i)).toInt = h (39 + i) ∧ (w.1 187 (49 + i)).toInt = h (49 + i)) (Q : cm_O → Prop) (hk : ∀ z vi : Int32, ((z.toInt = 1 ∧ ¬ ps_dq h u v k) ∨ (z.toInt = 0 ∧ ps_dq h u v k)) → cm_X (cm_C 5) 281 132 [some (.inr (.inr (some 184))), some (.inl vk), some (.inl vm), some (.inl z), some (.inl vi)] [] w Q) : ∀ (d i : Nat) (z vi : Int32), d + i = k → vi.toInt = (i : Int) → ((z.toInt = 1 ∧ ¬ ps_dq h u v i) ∨ (z.toInt = 0 ∧ ps_dq h u v i)) → cm_X (cm_C 5) 281 79 [some (.inr (.inr (some 184))), some (.inl vk), some (.inl vm), some (.inl z), some (.inl vi)] [] w Q := by
  intro d
  induction d with
  | zero =>
    intro i z vi hi hvi hI
    refine wk_iload xd_337b5af2 rfl ?_
    refine wk_iload_n xd_ec2e9dcf rfl ?_
    refine wk_icmp xd_50043628 (t := 132) rfl (fun h82_0 => ?_) (fun h82_0 => ?_)
    · have h82_0 := aw_ge_t (a := ((i : Int) : Int)) (b := ((k : Int) : Int)) hvi hvk h82_0
      have e9 : i = k := by omega
      rw [e9] at hI
      exact hk z vi hI
    · have h82_0 := aw_ge_f (a := ((i : Int) : Int)) (b := ((k : Int) : Int)) hvi hvk h82_0
      exfalso
      omega
  | succ d ih =>
    intro i z vi hi hvi hI
    refine wk_iload xd_337b5af2 rfl ?_
    refine wk_iload_n xd_ec2e9dcf rfl ?_
    refine wk_icmp xd_50043628 (t := 132) rfl (fun h82_1 => ?_) (fun h82_1 => ?_)
    · have h82_1 := aw_ge_t (a := ((i : Int) : Int)) (b := ((k : Int) : Int)) hvi hvk h82_1
      exfalso
      omega
    · have h82_1 := aw_ge_f (a := ((i : Int) : Int)) (b := ((k : Int) : Int)) hvi hvk h82_1
      refine wk_iload_n xd_96b26f3c rfl ?_
      refine wk_if xd_286127d8 (t := 124) rfl (fun h86_2 => ?_) (fun h86_2 => ?_)
      · have h86_2 := aw_eq_t (a := ((z).toInt : Int)) (b := (0 : Int)) rfl hb_z h86_2
        have hq : ps_dq h u v i := hI.elim (fun y => absurd y.1 (by omega)) (fun y => y.2)
        have hn : ps_dq h u v (i + 1) := ps_dq_y hq
        refine wk_iconst xd_f1e4ed93 ?_
        refine wk_istore_n xd_6704db28 (by rw [xm_db7c37b6]; rfl) rfl ?_
        refine aw_iinc (a := ((i : Int) : Int)) (b := (1 : Int)) (e := ((i : Int) + 1 : Int)) xd_b3623a90 (by rw [xm_db7c37b6]; rfl) rfl rfl hvi (show ((Int32.ofInt 1)).toInt = 1 from by decide) (by omega) (by omega) (by omega) (fun v4_ p4_ => ?_)
        refine wk_goto xd_7f0245d7 (t := 79) rfl ?_
        exact ih (i + 1) _ _ (by omega) (by omega) (.inr ⟨by decide, hn⟩)
      · have h86_2 := aw_eq_f (a := ((z).toInt : Int)) (b := (0 : Int)) rfl hb_z h86_2
        have hq : ¬ ps_dq h u v i := hI.elim (fun y => y.2) (fun y => absurd y.1 (by omega))
        refine wk_aload_n xd_8bf42434 rfl ?_
        refine wk_getR xf_0c09b95f xd_681665a3 ?_
        refine wk_bipush xd_213ee1e2 ?_
        refine wk_iload xd_cfc22bbf rfl ?_
        refine aw_iadd (a := (39 : Int)) (b := ((i : Int) : Int)) (e := ((i : Int) + 39 : Int)) xd_4021afc0 (show (((Int8.ofInt 39).toInt32)).toInt = 39 from by decide) hvi (by omega) (by omega) (by omega) (fun v5_ p5_ => ?_)
        refine aw_iaload (i := (39 + i)) xf_9cb75a54 p5_ (by omega) (by omega) xd_56cfc8af ?_
        refine wk_iload_n xd_2a12c11e rfl ?_
        refine wk_icmp xd_541fe225 (t := 120) rfl (fun h100_5 => ?_) (fun h100_5 => ?_)
        · have h100_5 := aw_ne_t (a := ((h (39 + i)) : Int)) (b := (u : Int)) (show ((w.1 187 (39 + i))).toInt = ((h (39 + i)) : Int) from (hd i (by omega)).1) hm h100_5
          have hn : ¬ ps_dq h u v (i + 1) := ps_dq_n hq (fun y => h100_5 y.1)
          refine wk_iconst xd_90255723 ?_
          refine wk_goto xd_bb83ce22 (t := 125) rfl ?_
          refine wk_istore_n xd_6704db28 (by rw [xm_db7c37b6]; rfl) rfl ?_
          refine aw_iinc (a := ((i : Int) : Int)) (b := (1 : Int)) (e := ((i : Int) + 1 : Int)) xd_b3623a90 (by rw [xm_db7c37b6]; rfl) rfl rfl hvi (show ((Int32.ofInt 1)).toInt = 1 from by decide) (by omega) (by omega) (by omega) (fun v7_ p7_ => ?_)
          refine wk_goto xd_7f0245d7 (t := 79) rfl ?_
          exact ih (i + 1) _ _ (by omega) (by omega) (.inl ⟨by decide, hn⟩)
        · have h100_5 := aw_ne_f (a := ((h (39 + i)) : Int)) (b := (u : Int)) (show ((w.1 187 (39 + i))).toInt = ((h (39 + i)) : Int) from (hd i (by omega)).1) hm h100_5
          refine wk_aload_n xd_843fdbe0 rfl ?_
          refine wk_getR xf_0c09b95f xd_008ddc78 ?_
          refine wk_bipush xd_5fa67af5 ?_
          refine wk_iload xd_49848f09 rfl ?_
          refine aw_iadd (a := (49 : Int)) (b := ((i : Int) : Int)) (e := ((i : Int) + 49 : Int)) xd_a134a464 (show (((Int8.ofInt 49).toInt32)).toInt = 49 from by decide) hvi (by omega) (by omega) (by omega) (fun v8_ p8_ => ?_)
          refine aw_iaload (i := (49 + i)) xf_9cb75a54 p8_ (by omega) (by omega) xd_d840b434 ?_
          refine wk_aload_n xd_051abec7 rfl ?_
          refine wk_getI xf_87efdaec xd_08e06ce7 ?_
          refine wk_icmp xd_94fc4532 (t := 124) rfl (fun h117_8 => ?_) (fun h117_8 => ?_)
          · have h117_8 := aw_eq_t (a := ((h (49 + i)) : Int)) (b := (v : Int)) (show ((w.1 187 (49 + i))).toInt = ((h (49 + i)) : Int) from (hd i (by omega)).2) (show ((w.1 184 18)).toInt = (v : Int) from hg) h117_8
            have hn : ps_dq h u v (i + 1) := ps_dq_z (by omega) h117_8
            refine wk_iconst xd_f1e4ed93 ?_
            refine wk_istore_n xd_6704db28 (by rw [xm_db7c37b6]; rfl) rfl ?_
            refine aw_iinc (a := ((i : Int) : Int)) (b := (1 : Int)) (e := ((i : Int) + 1 : Int)) xd_b3623a90 (by rw [xm_db7c37b6]; rfl) rfl rfl hvi (show ((Int32.ofInt 1)).toInt = 1 from by decide) (by omega) (by omega) (by omega) (fun v10_ p10_ => ?_)
            refine wk_goto xd_7f0245d7 (t := 79) rfl ?_
            exact ih (i + 1) _ _ (by omega) (by omega) (.inr ⟨by decide, hn⟩)
          · have h117_8 := aw_eq_f (a := ((h (49 + i)) : Int)) (b := (v : Int)) (show ((w.1 187 (49 + i))).toInt = ((h (49 + i)) : Int) from (hd i (by omega)).2) (show ((w.1 184 18)).toInt = (v : Int) from hg) h117_8
            have hn : ¬ ps_dq h u v (i + 1) := ps_dq_n hq (fun y => h117_8 y.2)
            refine wk_iconst xd_90255723 ?_
            refine wk_goto xd_bb83ce22 (t := 125) rfl ?_
            refine wk_istore_n xd_6704db28 (by rw [xm_db7c37b6]; rfl) rfl ?_
            refine aw_iinc (a := ((i : Int) : Int)) (b := (1 : Int)) (e := ((i : Int) + 1 : Int)) xd_b3623a90 (by rw [xm_db7c37b6]; rfl) rfl rfl hvi (show ((Int32.ofInt 1)).toInt = 1 from by decide) (by omega) (by omega) (by omega) (fun v11_ p11_ => ?_)
            refine wk_goto xd_7f0245d7 (t := 79) rfl ?_
            exact ih (i + 1) _ _ (by omega) (by omega) (.inl ⟨by decide, hn⟩)
theorem cr_debts {w : cm_W} {T : Nat → Int} {n m p : Nat} {f : Nat → Int} {g : Nat → Int64} {a0 b0 : Int} {h : Nat → Int} {nm : Nat → Nat} (hM : cr_M w T n m p f g a0 b0) (hQ : ps_Q tx_F f g h nm) : ∀ i, i < (h 3).toNat → (w.1 187 (39 + i)).toInt = h (39 + i) ∧ (w.1 187 (49 + i)).toInt = h (49 + i) := by
  intro i hi
  obtain ⟨-, -, h3, -⟩ := hM
  obtain ⟨q1, q2, q3⟩ := hQ
  subst h3
  unfold ps_bd at q3
  exact ⟨q1 (39 + i) (.inr (.inr (.inr (.inr (.inr (.inr (.inr (.inl ⟨by omega, by omega, by omega⟩)))))))), q1 (49 + i) (.inr (.inr (.inr (.inr (.inr (.inr (.inr (.inr (.inl ⟨by omega, by omega, by omega⟩)))))))))⟩
theorem cr_debt {w : cm_W} {T : Nat → Int} {n m p : Nat} {f : Nat → Int} {g : Nat → Int64} {a0 b0 : Int} {h : Nat → Int} {nm : Nat → Nat} (hM : cr_M w T n m p f g a0 b0) (hQ : ps_Q tx_F f g h nm) (hs : 1 ≤ (tx_tk T n m p).1 ∧ (tx_tk T n m p).1 ≤ 3)  : ∃ x w', cm_C 6 281 [.inr (.inr (some 184))] w (some (.inl x), w') ∧ cr_V w w' ∧ cr_P T n m (ps_debt T n m h nm a0 b0 p) x w' := by
  have hbd := hQ.2.2
  unfold ps_bd at hbd
  have hcn := cr_c hM hQ
  have h : ∃ o, cm_C (5 + 1) 281 [.inr (.inr (some 184))] w o ∧ (fun o : cm_O => ∃ x w', o = (some (.inl x), w') ∧ cr_V w w' ∧ cr_P T n m (ps_debt T n m h nm a0 b0 p) x w') o := by
    refine wk_entry (by rw [xm_db7c37b6]; exact Nat.le_of_ble_eq_true rfl) ?_
    rw [show cm_ent 281 [.inr (.inr (some 184))] = [some (.inr (.inr (some 184))), none, none, none, none] from by unfold cm_ent; rw [xm_db7c37b6]; rfl]
    refine wk_aload_n xd_1fba98b0 rfl ?_
    refine wk_getR xf_0c09b95f xd_3e386625 ?_
    refine wk_iconst xd_832b092a ?_
    refine aw_iaload (i := 3) xf_9cb75a54 (show ((Int32.ofInt 3)).toInt = 3 from by decide) (by omega) (by omega) xd_1431682f ?_
    refine wk_istore_n xd_e6527aa2 (by rw [xm_db7c37b6]; rfl) rfl ?_
    refine wk_iload_n xd_0e60fac3 rfl ?_
    refine wk_bipush xd_991b28d2 ?_
    refine wk_icmp xd_8ac81889 (t := 19) rfl (fun h10_0 => ?_) (fun h10_0 => ?_)
    · have h10_0 := aw_ne_t (a := (((h 3).toNat : Int) : Int)) (b := (10 : Int)) (show ((w.1 187 3)).toInt = (((h 3).toNat : Int) : Int) from hcn.2.2.2) (show (((Int8.ofInt 10).toInt32)).toInt = 10 from by decide) h10_0
      refine wk_aload_n xd_d8dc7dad rfl ?_
      obtain ⟨wn2_, hCn2_, hVn2_, hMn2_⟩ := cr_next hM hs
      have hVn2_a := cr_V_tr (cr_V_rf w) hVn2_
      refine wk_call (kd := 0) (i := 179) xd_cc54bd2e rfl (wk_cal (as := [.inr (.inr (some 184))]) (t := []) xl_23ca39b0 rfl xn_00af7311 xc_b2cf5bb1 rfl rfl xv_e7aa8f3d rfl) (cm_C_mono (by omega) hCn2_) ?_
      refine wk_aload_n xd_6ded444a rfl ?_
      refine wk_bipush xd_120cda00 ?_
      refine wk_aload_n xd_f6c20f0d rfl ?_
      refine wk_getR xf_0c09b95f xd_0138594f ?_
      refine wk_iconst xd_6a9ad8a8 ?_
      refine aw_iaload (i := 0) xf_9cb75a54 (show ((Int32.ofInt 0)).toInt = 0 from by decide) (by omega) (by omega) xd_6f452d50 ?_
      have ek3_ : (wn2_.1 187 0).toInt = ((h 0).toNat : Int) := by
        have e8 := congrFun hMn2_.2.2.1 0
        have e7 : f 0 = h 0 := by
          have e6 := (ps_Q_c hQ).1
          exact e6
        have e5 : (wn2_.1 187 0).toInt = f 0 := e8
        rw [e5, e7]
        omega
      obtain ⟨xu, wu, hCu, hVu, hRu⟩ := cr_take hMn2_ hQ (show (((Int8.ofInt 16).toInt32)).toInt = 16 from by decide) ek3_
      have hVua := cr_V_tr hVn2_a hVu
      refine wk_call (kd := 0) (i := 229) xd_4164e208 rfl (wk_cal (as := [.inr (.inr (some 184)), .inl ((Int8.ofInt 16).toInt32), .inl (wn2_.1 187 0)]) (t := []) xl_c5a69af9 rfl xn_fc82bc17 xc_e83768f1 rfl rfl xv_3626efb9 rfl) (cm_C_mono (by omega) hCu) ?_
      rcases hRu with ⟨u, eu, hxu, hgu, hMu⟩ | ⟨ku, qu, eu, hxu, hBu⟩
      · have hu := ps_look_b eu
        refine wk_if xd_e4e3f0e9 (t := 40) rfl (fun _ => ?_) (fun h => absurd (aw_ne_f hxu hb_z h) (by omega))
        refine wk_aload_n xd_ab352f27 rfl ?_
        refine wk_getI xf_87efdaec xd_5d57e75a ?_
        refine wk_istore_n xd_1616452d (by rw [xm_db7c37b6]; rfl) rfl ?_
        refine wk_aload_n xd_301a6460 rfl ?_
        refine wk_bipush xd_4fa75bb9 ?_
        refine wk_aload_n xd_ab8c6c01 rfl ?_
        refine wk_getR xf_0c09b95f xd_79367bef ?_
        refine wk_iconst xd_a9006352 ?_
        refine aw_iaload (i := 0) xf_9cb75a54 (show ((Int32.ofInt 0)).toInt = 0 from by decide) (by omega) (by omega) xd_53b65e1a ?_
        have ek5_ : (wu.1 187 0).toInt = ((h 0).toNat : Int) := by
          have e8 := congrFun hMu.2.2.1 0
          have e7 : f 0 = h 0 := by
            have e6 := (ps_Q_c hQ).1
            exact e6
          have e5 : (wu.1 187 0).toInt = f 0 := e8
          rw [e5, e7]
          omega
        obtain ⟨xv, wv, hCv, hVv, hRv⟩ := cr_look hMu hQ (show (((Int8.ofInt 16).toInt32)).toInt = 16 from by decide) ek5_
        have hVva := cr_V_tr hVua hVv
        refine wk_call (kd := 0) (i := 201) xd_53c36d1b rfl (wk_cal (as := [.inr (.inr (some 184)), .inl ((Int8.ofInt 16).toInt32), .inl (wu.1 187 0)]) (t := []) xl_6e841473 rfl xn_77145da2 xc_6d225164 rfl rfl xv_5b2ff62c rfl) (cm_C_mono (by omega) hCv) ?_
        rcases hRv with ⟨v, ev, hxv, hgv, hMv⟩ | ⟨kv, qv, ev, hxv, hBv⟩
        · have hv := ps_look_b ev
          refine wk_if xd_4df0e641 (t := 62) rfl (fun _ => ?_) (fun h => absurd (aw_ne_f hxv hb_z h) (by omega))
          refine wk_aload_n xd_9f9830c1 rfl ?_
          refine wk_getI xf_87efdaec xd_95059ab7 ?_
          refine wk_iload_n xd_bf07115f rfl ?_
          refine wk_icmp xd_2ddfb7b6 (t := 74) rfl (fun h67_6 => ?_) (fun h67_6 => ?_)
          · have h67_6 := aw_eq_t (a := (v : Int)) (b := (u : Int)) (show ((wv.1 184 18)).toInt = (v : Int) from hgv) (show ((wu.1 184 18)).toInt = (u : Int) from hgu) h67_6
            refine wk_iconst xd_3667ea3b ?_
            refine wk_istore_n xd_9fbebfe9 (by rw [xm_db7c37b6]; rfl) rfl ?_
            refine wk_iconst xd_183723bb ?_
            refine wk_istore xd_ba728f0b (by rw [xm_db7c37b6]; rfl) rfl ?_
            refine cr_dlp (h := h) (k := (h 3).toNat) (u := u) (v := v) (show ((w.1 187 3)).toInt = (((h 3).toNat : Int) : Int) from hcn.2.2.2) (by omega) (show ((wu.1 184 18)).toInt = (u : Int) from hgu) hgv (cr_debts hMv hQ) _ (fun z9 vi9 hI9 => ?_) (h 3).toNat 0 (Int32.ofInt 0) (Int32.ofInt 0) (by omega) (by decide) (.inr ⟨by decide, .inl (by omega)⟩)
            refine wk_iload_n xd_5af131a1 rfl ?_
            refine wk_if xd_893e0ba9 (t := 142) rfl (fun h133_7 => ?_) (fun h133_7 => ?_)
            · have h133_7 := aw_ne_t (a := ((z9).toInt : Int)) (b := (0 : Int)) rfl hb_z h133_7
              have hdb : ¬ (v = u ∨ ps_db h u v) := hI9.elim (fun y => y.2) (fun y => absurd y.1 (by omega))
              clear hI9
              refine wk_aload_n xd_764aaf6b rfl ?_
              refine wk_getR xf_0c09b95f xd_e449b60e ?_
              refine wk_bipush xd_b0d63ec6 ?_
              refine wk_iload_n xd_fc06c579 rfl ?_
              refine aw_iadd (a := (39 : Int)) (b := (((h 3).toNat : Int) : Int)) (e := (((h 3).toNat : Int) + 39 : Int)) xd_88ef87d2 (show (((Int8.ofInt 39).toInt32)).toInt = 39 from by decide) (show ((w.1 187 3)).toInt = (((h 3).toNat : Int) : Int) from hcn.2.2.2) (by omega) (by omega) (by omega) (fun v9_ p9_ => ?_)
              refine wk_iload_n xd_3a3a99a8 rfl ?_
              refine aw_iastore (i := (39 + (h 3).toNat)) xf_9cb75a54 p9_ (by omega) (by omega) xd_c1b13c9b ?_
              have hV10_ := cr_V_h (i := (39 + (h 3).toNat)) (x := (wu.1 184 18)) hVva
              have hM11_ := cr_M_h (i := (39 + (h 3).toNat)) hMv (show ((wu.1 184 18)).toInt = (u : Int) from (show ((wu.1 184 18)).toInt = (u : Int) from hgu))
              refine wk_aload_n xd_f76fca4c rfl ?_
              refine wk_getR xf_0c09b95f xd_03541099 ?_
              refine wk_bipush xd_2cf66b59 ?_
              refine wk_iload_n xd_7d23a05e rfl ?_
              refine aw_iadd (a := (49 : Int)) (b := (((h 3).toNat : Int) : Int)) (e := (((h 3).toNat : Int) + 49 : Int)) xd_5f0d078a (show (((Int8.ofInt 49).toInt32)).toInt = 49 from by decide) (show ((w.1 187 3)).toInt = (((h 3).toNat : Int) : Int) from hcn.2.2.2) (by omega) (by omega) (by omega) (fun v12_ p12_ => ?_)
              refine wk_aload_n xd_42e7b08d rfl ?_
              refine wk_getI xf_87efdaec xd_17bc1a28 ?_
              refine aw_iastore (i := (49 + (h 3).toNat)) xf_9cb75a54 p12_ (by omega) (by omega) xd_75ea16fe ?_
              have hV13_ := cr_V_h (i := (49 + (h 3).toNat)) (x := ((cm_u1 wv 187 (39 + (h 3).toNat) (wu.1 184 18)).1 184 18)) hV10_
              have hM14_ := cr_M_h (i := (49 + (h 3).toNat)) hM11_ (show (((cm_u1 wv 187 (39 + (h 3).toNat) (wu.1 184 18)).1 184 18)).toInt = (v : Int) from (show (((cm_u1 wv 187 (39 + (h 3).toNat) (wu.1 184 18)).1 184 18)).toInt = (v : Int) from hgv))
              refine wk_aload_n xd_d9c8fbca rfl ?_
              obtain ⟨wn15_, hCn15_, hVn15_, hMn15_⟩ := cr_next hM14_ hv.2.2
              have hVn15_a := cr_V_tr hV13_ hVn15_
              refine wk_call (kd := 0) (i := 179) xd_fb743dec rfl (wk_cal (as := [.inr (.inr (some 184))]) (t := []) xl_23ca39b0 rfl xn_00af7311 xc_b2cf5bb1 rfl rfl xv_e7aa8f3d rfl) (cm_C_mono (by omega) hCn15_) ?_
              refine wk_aload_n xd_d92d197f rfl ?_
              refine wk_bipush xd_d35b0689 ?_
              refine wk_iload_n xd_4937fc9e rfl ?_
              refine aw_iadd (a := (59 : Int)) (b := (((h 3).toNat : Int) : Int)) (e := (((h 3).toNat : Int) + 59 : Int)) xd_393cc4f4 (show (((Int8.ofInt 59).toInt32)).toInt = 59 from by decide) (show ((w.1 187 3)).toInt = (((h 3).toNat : Int) : Int) from hcn.2.2.2) (by omega) (by omega) (by omega) (fun v16_ p16_ => ?_)
              refine wk_iconst xd_57ab8f64 ?_
              refine wk_sipush xd_e5b5870a ?_
              obtain ⟨xt17_, wt17_, hCt17_, hVt17_, hRt17_⟩ := cr_puts (i := (59 + (h 3).toNat)) (to := v16_) (a := (Int32.ofInt 1)) (b := ((Int16.ofInt 250).toInt32)) (lo := 1) (hi := 250) hMn15_ (by have e9 := p16_; omega) (by omega) (by decide) (by decide)
              have hVt17_a := cr_V_tr hVn15_a hVt17_
              refine wk_call (kd := 0) (i := 217) xd_03404bc9 rfl (wk_cal (as := [.inr (.inr (some 184)), .inl v16_, .inl (Int32.ofInt 1), .inl ((Int16.ofInt 250).toInt32)]) (t := []) xl_e352cbfa rfl xn_eda6dc14 xc_8abdef2b rfl rfl xv_80098d93 rfl) (cm_C_mono (by omega) hCt17_) ?_
              rcases hRt17_ with ⟨et17_, hxt17_, hMt17_⟩ | ⟨et17_, hxt17_, hBt17_⟩
              · skip
                refine wk_if xd_0a56c182 (t := 199) rfl (fun h => absurd (aw_eq_t hxt17_ hb_z h) (by omega)) (fun _ => ?_)
                refine wk_aload_n xd_208b7ff0 rfl ?_
                refine wk_bipush xd_2df534a9 ?_
                refine wk_iload_n xd_310dbc10 rfl ?_
                refine aw_iadd (a := (69 : Int)) (b := (((h 3).toNat : Int) : Int)) (e := (((h 3).toNat : Int) + 69 : Int)) xd_87742154 (show (((Int8.ofInt 69).toInt32)).toInt = 69 from by decide) (show ((w.1 187 3)).toInt = (((h 3).toNat : Int) : Int) from hcn.2.2.2) (by omega) (by omega) (by omega) (fun v19_ p19_ => ?_)
                refine wk_iconst xd_ee01ac9c ?_
                refine wk_sipush xd_017c3bf4 ?_
                obtain ⟨xt20_, wt20_, hCt20_, hVt20_, hRt20_⟩ := cr_puts (i := (69 + (h 3).toNat)) (to := v19_) (a := (Int32.ofInt 0)) (b := ((Int16.ofInt 199).toInt32)) (lo := 0) (hi := 199) hMt17_ (by have e9 := p19_; omega) (by omega) (by decide) (by decide)
                have hVt20_a := cr_V_tr hVt17_a hVt20_
                refine wk_call (kd := 0) (i := 217) xd_cd0c1759 rfl (wk_cal (as := [.inr (.inr (some 184)), .inl v19_, .inl (Int32.ofInt 0), .inl ((Int16.ofInt 199).toInt32)]) (t := []) xl_e352cbfa rfl xn_eda6dc14 xc_8abdef2b rfl rfl xv_80098d93 rfl) (cm_C_mono (by omega) hCt20_) ?_
                rcases hRt20_ with ⟨et20_, hxt20_, hMt20_⟩ | ⟨et20_, hxt20_, hBt20_⟩
                · skip
                  refine wk_if xd_9edd36e9 (t := 201) rfl (fun _ => ?_) (fun h => absurd (aw_ne_f hxt20_ hb_z h) (by omega))
                  refine wk_aload_n xd_5c44be5a rfl ?_
                  refine wk_getR xf_0c09b95f xd_d8c29d1d ?_
                  refine wk_iconst xd_14e48942 ?_
                  refine wk_dup2 xd_1fd1b478 ?_
                  refine aw_iaload (i := 3) xf_9cb75a54 (show ((Int32.ofInt 3)).toInt = 3 from by decide) (by omega) (by omega) xd_55684af5 ?_
                  have ek22_ : (wt20_.1 187 3).toInt = ((h 3).toNat : Int) := by
                    have e8 := congrFun hMt20_.2.2.1 3
                    have e7 : (ps_up (ps_up (ps_up (ps_up f ((39 + (h 3).toNat)) (u : Int)) ((49 + (h 3).toNat)) (v : Int)) ((59 + (h 3).toNat)) (tx_tk T n m (tx_tk T n m (tx_tk T n m (tx_tk T n m p).2.2.1).2.2.1).2.2.1).2.2.2.1) ((69 + (h 3).toNat)) (tx_tk T n m (tx_tk T n m (tx_tk T n m (tx_tk T n m (tx_tk T n m p).2.2.1).2.2.1).2.2.1).2.2.1).2.2.2.1) 3 = h 3 := by
                      have e6 := (ps_Q_c hQ).2.2.2.1
                      exact (ps_up_ne (show 3 ≠ (69 + (h 3).toNat) by omega)).trans ((ps_up_ne (show 3 ≠ (59 + (h 3).toNat) by omega)).trans ((ps_up_ne (show 3 ≠ (49 + (h 3).toNat) by omega)).trans ((ps_up_ne (show 3 ≠ (39 + (h 3).toNat) by omega)).trans (e6))))
                    have e5 : (wt20_.1 187 3).toInt = (ps_up (ps_up (ps_up (ps_up f ((39 + (h 3).toNat)) (u : Int)) ((49 + (h 3).toNat)) (v : Int)) ((59 + (h 3).toNat)) (tx_tk T n m (tx_tk T n m (tx_tk T n m (tx_tk T n m p).2.2.1).2.2.1).2.2.1).2.2.2.1) ((69 + (h 3).toNat)) (tx_tk T n m (tx_tk T n m (tx_tk T n m (tx_tk T n m (tx_tk T n m p).2.2.1).2.2.1).2.2.1).2.2.1).2.2.2.1) 3 := e8
                    rw [e5, e7]
                    omega
                  refine wk_iconst xd_9cee0be2 ?_
                  refine aw_iadd (a := (((h 3).toNat : Int) : Int)) (b := (1 : Int)) (e := (((h 3).toNat : Int) + 1 : Int)) xd_ce2ec7fa ek22_ (show ((Int32.ofInt 1)).toInt = 1 from by decide) (by omega) (by omega) (by omega) (fun v23_ p23_ => ?_)
                  refine aw_iastore (i := 3) xf_9cb75a54 (show ((Int32.ofInt 3)).toInt = 3 from by decide) (by omega) (by omega) xd_742f1538 ?_
                  have hV24_ := cr_V_h (i := 3) (x := v23_) hVt20_a
                  have hM25_ := cr_M_h (i := 3) hMt20_ (show (v23_).toInt = (h 3 + 1) from (by have e9 := p23_; omega))
                  refine wk_iconst xd_a9f6a3f6 ?_
                  exact wk_ireturn xd_37d6e7c4 xr_7954e2c3 wk_z1 ⟨_, _, rfl, hV24_, cr_P_n ((ps_debt_n (by omega) eu ev hdb).trans (congrArg (ps_end _ _ _ _ _) ((ps_nums_ok et17_).trans (ps_nums_ok et20_)))) (by decide) hM25_ (ps_Q_debt hQ (by omega))⟩
                · skip
                  refine wk_if xd_9edd36e9 (t := 201) rfl (fun h => absurd (aw_ne_t hxt20_ hb_z h) (by omega)) (fun _ => ?_)
                  refine wk_iconst xd_75724648 ?_
                  exact wk_ireturn xd_c43a8279 xr_7954e2c3 wk_z0 ⟨_, _, rfl, hVt20_a, cr_P_e ((ps_debt_n (by omega) eu ev hdb).trans (congrArg (ps_end _ _ _ _ _) ((ps_nums_ok et17_).trans (ps_nums_no et20_)))) (by decide) hBt20_⟩
              · skip
                refine wk_if xd_0a56c182 (t := 199) rfl (fun _ => ?_) (fun h => absurd (aw_eq_f hxt17_ hb_z h) (by omega))
                refine wk_iconst xd_75724648 ?_
                exact wk_ireturn xd_c43a8279 xr_7954e2c3 wk_z0 ⟨_, _, rfl, hVt17_a, cr_P_e ((ps_debt_n (by omega) eu ev hdb).trans (congrArg (ps_end _ _ _ _ _) (ps_nums_no et17_))) (by decide) hBt17_⟩
            · have h133_7 := aw_ne_f (a := ((z9).toInt : Int)) (b := (0 : Int)) rfl hb_z h133_7
              have hdb : v = u ∨ ps_db h u v := hI9.elim (fun y => absurd y.1 (by omega)) (fun y => y.2)
              clear hI9
              refine wk_aload_n xd_470e398f rfl ?_
              refine wk_iconst xd_144fd0d7 ?_
              obtain ⟨wr28_, hCr28_, hVr28_, hBr28_⟩ := cr_bad (k := (Int32.ofInt 3)) (c := 3) hMv (by decide)
              have hVr28_a := cr_V_tr hVva hVr28_
              refine wk_call (kd := 0) (i := 176) xd_a81b81d3 rfl (wk_cal (as := [.inr (.inr (some 184)), .inl (Int32.ofInt 3)]) (t := []) xl_052a3a61 rfl xn_f63023b8 xc_1907b494 rfl rfl xv_a1095a1b rfl) (cm_C_mono (by omega) hCr28_) ?_
              exact wk_ireturn xd_71a4abda xr_7954e2c3 wk_z0 ⟨_, _, rfl, hVr28_a, cr_P_e (ps_debt_y (by omega) eu ev hdb) (by decide) hBr28_⟩
          · have h67_6 := aw_eq_f (a := (v : Int)) (b := (u : Int)) (show ((wv.1 184 18)).toInt = (v : Int) from hgv) (show ((wu.1 184 18)).toInt = (u : Int) from hgu) h67_6
            refine wk_iconst xd_57a6508b ?_
            refine wk_goto xd_cac89cd4 (t := 75) rfl ?_
            refine wk_istore_n xd_9fbebfe9 (by rw [xm_db7c37b6]; rfl) rfl ?_
            refine wk_iconst xd_183723bb ?_
            refine wk_istore xd_ba728f0b (by rw [xm_db7c37b6]; rfl) rfl ?_
            refine cr_dlp (h := h) (k := (h 3).toNat) (u := u) (v := v) (show ((w.1 187 3)).toInt = (((h 3).toNat : Int) : Int) from hcn.2.2.2) (by omega) (show ((wu.1 184 18)).toInt = (u : Int) from hgu) hgv (cr_debts hMv hQ) _ (fun z9 vi9 hI9 => ?_) (h 3).toNat 0 (Int32.ofInt 1) (Int32.ofInt 0) (by omega) (by decide) (.inl ⟨by decide, fun y => y.elim (fun y => by omega) (fun ⟨q, a, _⟩ => absurd a (Nat.not_lt_zero q))⟩)
            refine wk_iload_n xd_5af131a1 rfl ?_
            refine wk_if xd_893e0ba9 (t := 142) rfl (fun h133_28 => ?_) (fun h133_28 => ?_)
            · have h133_28 := aw_ne_t (a := ((z9).toInt : Int)) (b := (0 : Int)) rfl hb_z h133_28
              have hdb : ¬ (v = u ∨ ps_db h u v) := hI9.elim (fun y => y.2) (fun y => absurd y.1 (by omega))
              clear hI9
              refine wk_aload_n xd_764aaf6b rfl ?_
              refine wk_getR xf_0c09b95f xd_e449b60e ?_
              refine wk_bipush xd_b0d63ec6 ?_
              refine wk_iload_n xd_fc06c579 rfl ?_
              refine aw_iadd (a := (39 : Int)) (b := (((h 3).toNat : Int) : Int)) (e := (((h 3).toNat : Int) + 39 : Int)) xd_88ef87d2 (show (((Int8.ofInt 39).toInt32)).toInt = 39 from by decide) (show ((w.1 187 3)).toInt = (((h 3).toNat : Int) : Int) from hcn.2.2.2) (by omega) (by omega) (by omega) (fun v30_ p30_ => ?_)
              refine wk_iload_n xd_3a3a99a8 rfl ?_
              refine aw_iastore (i := (39 + (h 3).toNat)) xf_9cb75a54 p30_ (by omega) (by omega) xd_c1b13c9b ?_
              have hV31_ := cr_V_h (i := (39 + (h 3).toNat)) (x := (wu.1 184 18)) hVva
              have hM32_ := cr_M_h (i := (39 + (h 3).toNat)) hMv (show ((wu.1 184 18)).toInt = (u : Int) from (show ((wu.1 184 18)).toInt = (u : Int) from hgu))
              refine wk_aload_n xd_f76fca4c rfl ?_
              refine wk_getR xf_0c09b95f xd_03541099 ?_
              refine wk_bipush xd_2cf66b59 ?_
              refine wk_iload_n xd_7d23a05e rfl ?_
              refine aw_iadd (a := (49 : Int)) (b := (((h 3).toNat : Int) : Int)) (e := (((h 3).toNat : Int) + 49 : Int)) xd_5f0d078a (show (((Int8.ofInt 49).toInt32)).toInt = 49 from by decide) (show ((w.1 187 3)).toInt = (((h 3).toNat : Int) : Int) from hcn.2.2.2) (by omega) (by omega) (by omega) (fun v33_ p33_ => ?_)
              refine wk_aload_n xd_42e7b08d rfl ?_
              refine wk_getI xf_87efdaec xd_17bc1a28 ?_
              refine aw_iastore (i := (49 + (h 3).toNat)) xf_9cb75a54 p33_ (by omega) (by omega) xd_75ea16fe ?_
              have hV34_ := cr_V_h (i := (49 + (h 3).toNat)) (x := ((cm_u1 wv 187 (39 + (h 3).toNat) (wu.1 184 18)).1 184 18)) hV31_
              have hM35_ := cr_M_h (i := (49 + (h 3).toNat)) hM32_ (show (((cm_u1 wv 187 (39 + (h 3).toNat) (wu.1 184 18)).1 184 18)).toInt = (v : Int) from (show (((cm_u1 wv 187 (39 + (h 3).toNat) (wu.1 184 18)).1 184 18)).toInt = (v : Int) from hgv))
              refine wk_aload_n xd_d9c8fbca rfl ?_
              obtain ⟨wn36_, hCn36_, hVn36_, hMn36_⟩ := cr_next hM35_ hv.2.2
              have hVn36_a := cr_V_tr hV34_ hVn36_
              refine wk_call (kd := 0) (i := 179) xd_fb743dec rfl (wk_cal (as := [.inr (.inr (some 184))]) (t := []) xl_23ca39b0 rfl xn_00af7311 xc_b2cf5bb1 rfl rfl xv_e7aa8f3d rfl) (cm_C_mono (by omega) hCn36_) ?_
              refine wk_aload_n xd_d92d197f rfl ?_
              refine wk_bipush xd_d35b0689 ?_
              refine wk_iload_n xd_4937fc9e rfl ?_
              refine aw_iadd (a := (59 : Int)) (b := (((h 3).toNat : Int) : Int)) (e := (((h 3).toNat : Int) + 59 : Int)) xd_393cc4f4 (show (((Int8.ofInt 59).toInt32)).toInt = 59 from by decide) (show ((w.1 187 3)).toInt = (((h 3).toNat : Int) : Int) from hcn.2.2.2) (by omega) (by omega) (by omega) (fun v37_ p37_ => ?_)
              refine wk_iconst xd_57ab8f64 ?_
              refine wk_sipush xd_e5b5870a ?_
              obtain ⟨xt38_, wt38_, hCt38_, hVt38_, hRt38_⟩ := cr_puts (i := (59 + (h 3).toNat)) (to := v37_) (a := (Int32.ofInt 1)) (b := ((Int16.ofInt 250).toInt32)) (lo := 1) (hi := 250) hMn36_ (by have e9 := p37_; omega) (by omega) (by decide) (by decide)
              have hVt38_a := cr_V_tr hVn36_a hVt38_
              refine wk_call (kd := 0) (i := 217) xd_03404bc9 rfl (wk_cal (as := [.inr (.inr (some 184)), .inl v37_, .inl (Int32.ofInt 1), .inl ((Int16.ofInt 250).toInt32)]) (t := []) xl_e352cbfa rfl xn_eda6dc14 xc_8abdef2b rfl rfl xv_80098d93 rfl) (cm_C_mono (by omega) hCt38_) ?_
              rcases hRt38_ with ⟨et38_, hxt38_, hMt38_⟩ | ⟨et38_, hxt38_, hBt38_⟩
              · skip
                refine wk_if xd_0a56c182 (t := 199) rfl (fun h => absurd (aw_eq_t hxt38_ hb_z h) (by omega)) (fun _ => ?_)
                refine wk_aload_n xd_208b7ff0 rfl ?_
                refine wk_bipush xd_2df534a9 ?_
                refine wk_iload_n xd_310dbc10 rfl ?_
                refine aw_iadd (a := (69 : Int)) (b := (((h 3).toNat : Int) : Int)) (e := (((h 3).toNat : Int) + 69 : Int)) xd_87742154 (show (((Int8.ofInt 69).toInt32)).toInt = 69 from by decide) (show ((w.1 187 3)).toInt = (((h 3).toNat : Int) : Int) from hcn.2.2.2) (by omega) (by omega) (by omega) (fun v40_ p40_ => ?_)
                refine wk_iconst xd_ee01ac9c ?_
                refine wk_sipush xd_017c3bf4 ?_
                obtain ⟨xt41_, wt41_, hCt41_, hVt41_, hRt41_⟩ := cr_puts (i := (69 + (h 3).toNat)) (to := v40_) (a := (Int32.ofInt 0)) (b := ((Int16.ofInt 199).toInt32)) (lo := 0) (hi := 199) hMt38_ (by have e9 := p40_; omega) (by omega) (by decide) (by decide)
                have hVt41_a := cr_V_tr hVt38_a hVt41_
                refine wk_call (kd := 0) (i := 217) xd_cd0c1759 rfl (wk_cal (as := [.inr (.inr (some 184)), .inl v40_, .inl (Int32.ofInt 0), .inl ((Int16.ofInt 199).toInt32)]) (t := []) xl_e352cbfa rfl xn_eda6dc14 xc_8abdef2b rfl rfl xv_80098d93 rfl) (cm_C_mono (by omega) hCt41_) ?_
                rcases hRt41_ with ⟨et41_, hxt41_, hMt41_⟩ | ⟨et41_, hxt41_, hBt41_⟩
                · skip
                  refine wk_if xd_9edd36e9 (t := 201) rfl (fun _ => ?_) (fun h => absurd (aw_ne_f hxt41_ hb_z h) (by omega))
                  refine wk_aload_n xd_5c44be5a rfl ?_
                  refine wk_getR xf_0c09b95f xd_d8c29d1d ?_
                  refine wk_iconst xd_14e48942 ?_
                  refine wk_dup2 xd_1fd1b478 ?_
                  refine aw_iaload (i := 3) xf_9cb75a54 (show ((Int32.ofInt 3)).toInt = 3 from by decide) (by omega) (by omega) xd_55684af5 ?_
                  have ek43_ : (wt41_.1 187 3).toInt = ((h 3).toNat : Int) := by
                    have e8 := congrFun hMt41_.2.2.1 3
                    have e7 : (ps_up (ps_up (ps_up (ps_up f ((39 + (h 3).toNat)) (u : Int)) ((49 + (h 3).toNat)) (v : Int)) ((59 + (h 3).toNat)) (tx_tk T n m (tx_tk T n m (tx_tk T n m (tx_tk T n m p).2.2.1).2.2.1).2.2.1).2.2.2.1) ((69 + (h 3).toNat)) (tx_tk T n m (tx_tk T n m (tx_tk T n m (tx_tk T n m (tx_tk T n m p).2.2.1).2.2.1).2.2.1).2.2.1).2.2.2.1) 3 = h 3 := by
                      have e6 := (ps_Q_c hQ).2.2.2.1
                      exact (ps_up_ne (show 3 ≠ (69 + (h 3).toNat) by omega)).trans ((ps_up_ne (show 3 ≠ (59 + (h 3).toNat) by omega)).trans ((ps_up_ne (show 3 ≠ (49 + (h 3).toNat) by omega)).trans ((ps_up_ne (show 3 ≠ (39 + (h 3).toNat) by omega)).trans (e6))))
                    have e5 : (wt41_.1 187 3).toInt = (ps_up (ps_up (ps_up (ps_up f ((39 + (h 3).toNat)) (u : Int)) ((49 + (h 3).toNat)) (v : Int)) ((59 + (h 3).toNat)) (tx_tk T n m (tx_tk T n m (tx_tk T n m (tx_tk T n m p).2.2.1).2.2.1).2.2.1).2.2.2.1) ((69 + (h 3).toNat)) (tx_tk T n m (tx_tk T n m (tx_tk T n m (tx_tk T n m (tx_tk T n m p).2.2.1).2.2.1).2.2.1).2.2.1).2.2.2.1) 3 := e8
                    rw [e5, e7]
                    omega
                  refine wk_iconst xd_9cee0be2 ?_
                  refine aw_iadd (a := (((h 3).toNat : Int) : Int)) (b := (1 : Int)) (e := (((h 3).toNat : Int) + 1 : Int)) xd_ce2ec7fa ek43_ (show ((Int32.ofInt 1)).toInt = 1 from by decide) (by omega) (by omega) (by omega) (fun v44_ p44_ => ?_)
                  refine aw_iastore (i := 3) xf_9cb75a54 (show ((Int32.ofInt 3)).toInt = 3 from by decide) (by omega) (by omega) xd_742f1538 ?_
                  have hV45_ := cr_V_h (i := 3) (x := v44_) hVt41_a
                  have hM46_ := cr_M_h (i := 3) hMt41_ (show (v44_).toInt = (h 3 + 1) from (by have e9 := p44_; omega))
                  refine wk_iconst xd_a9f6a3f6 ?_
                  exact wk_ireturn xd_37d6e7c4 xr_7954e2c3 wk_z1 ⟨_, _, rfl, hV45_, cr_P_n ((ps_debt_n (by omega) eu ev hdb).trans (congrArg (ps_end _ _ _ _ _) ((ps_nums_ok et38_).trans (ps_nums_ok et41_)))) (by decide) hM46_ (ps_Q_debt hQ (by omega))⟩
                · skip
                  refine wk_if xd_9edd36e9 (t := 201) rfl (fun h => absurd (aw_ne_t hxt41_ hb_z h) (by omega)) (fun _ => ?_)
                  refine wk_iconst xd_75724648 ?_
                  exact wk_ireturn xd_c43a8279 xr_7954e2c3 wk_z0 ⟨_, _, rfl, hVt41_a, cr_P_e ((ps_debt_n (by omega) eu ev hdb).trans (congrArg (ps_end _ _ _ _ _) ((ps_nums_ok et38_).trans (ps_nums_no et41_)))) (by decide) hBt41_⟩
              · skip
                refine wk_if xd_0a56c182 (t := 199) rfl (fun _ => ?_) (fun h => absurd (aw_eq_f hxt38_ hb_z h) (by omega))
                refine wk_iconst xd_75724648 ?_
                exact wk_ireturn xd_c43a8279 xr_7954e2c3 wk_z0 ⟨_, _, rfl, hVt38_a, cr_P_e ((ps_debt_n (by omega) eu ev hdb).trans (congrArg (ps_end _ _ _ _ _) (ps_nums_no et38_))) (by decide) hBt38_⟩
            · have h133_28 := aw_ne_f (a := ((z9).toInt : Int)) (b := (0 : Int)) rfl hb_z h133_28
              have hdb : v = u ∨ ps_db h u v := hI9.elim (fun y => absurd y.1 (by omega)) (fun y => y.2)
              clear hI9
              refine wk_aload_n xd_470e398f rfl ?_
              refine wk_iconst xd_144fd0d7 ?_
              obtain ⟨wr49_, hCr49_, hVr49_, hBr49_⟩ := cr_bad (k := (Int32.ofInt 3)) (c := 3) hMv (by decide)
              have hVr49_a := cr_V_tr hVva hVr49_
              refine wk_call (kd := 0) (i := 176) xd_a81b81d3 rfl (wk_cal (as := [.inr (.inr (some 184)), .inl (Int32.ofInt 3)]) (t := []) xl_052a3a61 rfl xn_f63023b8 xc_1907b494 rfl rfl xv_a1095a1b rfl) (cm_C_mono (by omega) hCr49_) ?_
              exact wk_ireturn xd_71a4abda xr_7954e2c3 wk_z0 ⟨_, _, rfl, hVr49_a, cr_P_e (ps_debt_y (by omega) eu ev hdb) (by decide) hBr49_⟩
        · skip
          refine wk_if xd_4df0e641 (t := 62) rfl (fun h => absurd (aw_ne_t hxv hb_z h) (by omega)) (fun _ => ?_)
          refine wk_iconst xd_f1b593ef ?_
          exact wk_ireturn xd_40d289e1 xr_7954e2c3 wk_z0 ⟨_, _, rfl, hVva, cr_P_e (ps_debt_x (by omega) eu ev) (by decide) hBv⟩
      · skip
        refine wk_if xd_e4e3f0e9 (t := 40) rfl (fun h => absurd (aw_ne_t hxu hb_z h) (by omega)) (fun _ => ?_)
        refine wk_iconst xd_d3d9fea8 ?_
        exact wk_ireturn xd_2ea97757 xr_7954e2c3 wk_z0 ⟨_, _, rfl, hVua, cr_P_e (ps_debt_e (by omega) eu) (by decide) hBu⟩
    · have h10_0 := aw_ne_f (a := (((h 3).toNat : Int) : Int)) (b := (10 : Int)) (show ((w.1 187 3)).toInt = (((h 3).toNat : Int) : Int) from hcn.2.2.2) (show (((Int8.ofInt 10).toInt32)).toInt = 10 from by decide) h10_0
      refine wk_aload_n xd_35f3ed62 rfl ?_
      refine wk_iconst xd_2e2d3e81 ?_
      obtain ⟨wr52_, hCr52_, hVr52_, hBr52_⟩ := cr_bad (k := (Int32.ofInt 4)) (c := 4) hM (by decide)
      have hVr52_a := cr_V_tr (cr_V_rf w) hVr52_
      refine wk_call (kd := 0) (i := 176) xd_b26369d5 rfl (wk_cal (as := [.inr (.inr (some 184)), .inl (Int32.ofInt 4)]) (t := []) xl_052a3a61 rfl xn_f63023b8 xc_1907b494 rfl rfl xv_a1095a1b rfl) (cm_C_mono (by omega) hCr52_) ?_
      exact wk_ireturn xd_9f233d49 xr_7954e2c3 wk_z0 ⟨_, _, rfl, hVr52_a, cr_P_e (ps_debt_f (by omega)) (by decide) hBr52_⟩
  obtain ⟨o, hC, x, w', rfl, a⟩ := h
  exact ⟨x, w', hC, a⟩
theorem cr_w0 : Int64.ofNat 1936744814 = Int64.ofNat (tx_F (tx_rw.getD 0 0)) := congrArg Int64.ofNat (by decide +kernel)
theorem cr_w1 : Int64.ofNat 131294708393330 = Int64.ofNat (tx_F (tx_rw.getD 1 0)) := congrArg Int64.ofNat (by decide +kernel)
theorem cr_w2 : Int64.ofNat 123581014175598 = Int64.ofNat (tx_F (tx_rw.getD 2 0)) := congrArg Int64.ofNat (by decide +kernel)
theorem cr_w3 : Int64.ofNat 1718579044 = Int64.ofNat (tx_F (tx_rw.getD 3 0)) := congrArg Int64.ofNat (by decide +kernel)
theorem cr_w4 : Int64.ofNat 30792258880630375 = Int64.ofNat (tx_F (tx_rw.getD 4 0)) := congrArg Int64.ofNat (by decide +kernel)
theorem cr_w5 : Int64.ofNat 1684365940 = Int64.ofNat (tx_F (tx_rw.getD 5 0)) := congrArg Int64.ofNat (by decide +kernel)
theorem cr_line {w : cm_W} {T : Nat → Int} {n m p : Nat} {f : Nat → Int} {g : Nat → Int64} {a0 b0 : Int} {h : Nat → Int} {nm : Nat → Nat} (hM : cr_M w T n m p f g a0 b0) (hQ : ps_Q tx_F f g h nm)  : ∃ x w', cm_C 7 273 [.inr (.inr (some 184))] w (some (.inl x), w') ∧ cr_V w w' ∧ cr_P T n m (ps_line T n m h nm a0 b0 p) x w' := by
  have hbd := hQ.2.2
  unfold ps_bd at hbd
  have hcn := cr_c hM hQ
  have h : ∃ o, cm_C (6 + 1) 273 [.inr (.inr (some 184))] w o ∧ (fun o : cm_O => ∃ x w', o = (some (.inl x), w') ∧ cr_V w w' ∧ cr_P T n m (ps_line T n m h nm a0 b0 p) x w') o := by
    refine wk_entry (by rw [xm_ce8e43a0]; exact Nat.le_of_ble_eq_true rfl) ?_
    rw [show cm_ent 273 [.inr (.inr (some 184))] = [some (.inr (.inr (some 184))), none] from by unfold cm_ent; rw [xm_ce8e43a0]; rfl]
    refine wk_aload_n xd_1aa743d3 rfl ?_
    refine aw_ldc2 xl_da86ceb0 rfl xd_93a1fdb2 ?_
    obtain ⟨x0, hC0, hx0⟩ := mw_ok (w := w) (l := (Int64.ofNat 1936744814)) (c := tx_rw.getD 0 0) cr_w0 (tx_rw32 (by omega)) hM.1.2.1
    refine wk_call (kd := 0) (i := 210) xd_1e1b3869 rfl (wk_cal (as := [.inr (.inr (some 184)), .inr (.inl (Int64.ofNat 1936744814))]) (t := []) xl_6b97710b rfl xn_94b640da xc_24159032 rfl rfl xv_bdbd9e17 rfl) (cm_C_mono (by omega) hC0) ?_
    rcases hx0 with ⟨hx0, hw0⟩ | ⟨hx0, hn0⟩
    · have hs : 1 ≤ (tx_tk T n m p).1 ∧ (tx_tk T n m p).1 ≤ 3 := by have := hw0.1; omega
      refine wk_if xd_31112b96 (t := 35) rfl (fun h => absurd (aw_eq_t hx0 hb_z h) (by omega)) (fun _ => ?_)
      refine wk_aload_n xd_97a8f966 rfl ?_
      refine wk_iconst xd_9539b4e2 ?_
      obtain ⟨xc2_, wc2_, hCc2_, hVc2_, hRc2_⟩ := cr_once0 hM hs
      have hVc2_a := cr_V_tr (cr_V_rf w) hVc2_
      refine wk_call (kd := 0) (i := 214) xd_6ff8e294 rfl (wk_cal (as := [.inr (.inr (some 184)), .inl (Int32.ofInt 0)]) (t := []) xl_4f99a89c rfl xn_796f6281 xc_e3c2a358 rfl rfl xv_ff7055c3 rfl) (cm_C_mono (by omega) hCc2_) ?_
      rcases hRc2_ with ⟨ez, hxc2_, hMc2_⟩ | ⟨ez, hxc2_, hBc2_⟩
      · skip
        refine wk_if xd_9c694986 (t := 33) rfl (fun h => absurd (aw_eq_t hxc2_ hb_z h) (by omega)) (fun _ => ?_)
        refine wk_aload_n xd_9711ba40 rfl ?_
        refine wk_iconst xd_d9fa3422 ?_
        refine wk_iconst xd_c994c0af ?_
        refine wk_bipush xd_54493b70 ?_
        obtain ⟨xt4_, wt4_, hCt4_, hVt4_, hRt4_⟩ := cr_puts (i := 4) (to := (Int32.ofInt 4)) (a := (Int32.ofInt 1)) (b := ((Int8.ofInt 20).toInt32)) (lo := 1) (hi := 20) hMc2_ (by have e9 := (show ((Int32.ofInt 4)).toInt = 4 from by decide); omega) (by omega) (by decide) (by decide)
        have hVt4_a := cr_V_tr hVc2_a hVt4_
        refine wk_call (kd := 0) (i := 217) xd_efa0782a rfl (wk_cal (as := [.inr (.inr (some 184)), .inl (Int32.ofInt 4), .inl (Int32.ofInt 1), .inl ((Int8.ofInt 20).toInt32)]) (t := []) xl_635aa528 rfl xn_eda6dc14 xc_8abdef2b rfl rfl xv_80098d93 rfl) (cm_C_mono (by omega) hCt4_) ?_
        rcases hRt4_ with ⟨et4_, hxt4_, hMt4_⟩ | ⟨et4_, hxt4_, hBt4_⟩
        · skip
          refine wk_if xd_eb4aeb14 (t := 33) rfl (fun h => absurd (aw_eq_t hxt4_ hb_z h) (by omega)) (fun _ => ?_)
          refine wk_iconst xd_67ff826f ?_
          refine wk_goto xd_86360039 (t := 34) rfl ?_
          exact wk_ireturn xd_9bf489c3 xr_5b17d66c wk_z1 ⟨_, _, rfl, hVt4_a, cr_P_n ((ps_line_0 hw0).trans (ps_span_n ez (ps_nums_ok et4_))) (by decide) hMt4_ (ps_Q_span hQ)⟩
        · skip
          refine wk_if xd_eb4aeb14 (t := 33) rfl (fun _ => ?_) (fun h => absurd (aw_eq_f hxt4_ hb_z h) (by omega))
          refine wk_iconst xd_56ffae8b ?_
          exact wk_ireturn xd_9bf489c3 xr_5b17d66c wk_z0 ⟨_, _, rfl, hVt4_a, cr_P_e ((ps_line_0 hw0).trans (ps_span_e ez (ps_nums_no et4_))) (by decide) hBt4_⟩
      · skip
        refine wk_if xd_9c694986 (t := 33) rfl (fun _ => ?_) (fun h => absurd (aw_eq_f hxc2_ hb_z h) (by omega))
        refine wk_iconst xd_56ffae8b ?_
        exact wk_ireturn xd_9bf489c3 xr_5b17d66c wk_z0 ⟨_, _, rfl, hVc2_a, cr_P_e ((ps_line_0 hw0).trans (ps_span_f ez)) (by decide) hBc2_⟩
    · skip
      refine wk_if xd_31112b96 (t := 35) rfl (fun _ => ?_) (fun h => absurd (aw_eq_f hx0 hb_z h) (by omega))
      refine wk_aload_n xd_d5bc7e2e rfl ?_
      refine aw_ldc2 xl_6f9f0c0d rfl xd_0e1cadc7 ?_
      obtain ⟨x1, hC1, hx1⟩ := mw_ok (w := w) (l := (Int64.ofNat 131294708393330)) (c := tx_rw.getD 1 0) cr_w1 (tx_rw32 (by omega)) hM.1.2.1
      refine wk_call (kd := 0) (i := 210) xd_c6aa36ba rfl (wk_cal (as := [.inr (.inr (some 184)), .inr (.inl (Int64.ofNat 131294708393330))]) (t := []) xl_6b97710b rfl xn_94b640da xc_24159032 rfl rfl xv_bdbd9e17 rfl) (cm_C_mono (by omega) hC1) ?_
      rcases hx1 with ⟨hx1, hw1⟩ | ⟨hx1, hn1⟩
      · have hs : 1 ≤ (tx_tk T n m p).1 ∧ (tx_tk T n m p).1 ≤ 3 := by have := hw1.1; omega
        refine wk_if xd_53a38f7b (t := 84) rfl (fun h => absurd (aw_eq_t hx1 hb_z h) (by omega)) (fun _ => ?_)
        refine wk_aload_n xd_e4a44959 rfl ?_
        refine wk_iconst xd_56afe855 ?_
        obtain ⟨xc10_, wc10_, hCc10_, hVc10_, hRc10_⟩ := cr_once1 hM hs
        have hVc10_a := cr_V_tr (cr_V_rf w) hVc10_
        refine wk_call (kd := 0) (i := 214) xd_dad0b681 rfl (wk_cal (as := [.inr (.inr (some 184)), .inl (Int32.ofInt 1)]) (t := []) xl_4f99a89c rfl xn_796f6281 xc_e3c2a358 rfl rfl xv_ff7055c3 rfl) (cm_C_mono (by omega) hCc10_) ?_
        rcases hRc10_ with ⟨ez, hxc10_, hMc10_⟩ | ⟨ez, hxc10_, hBc10_⟩
        · skip
          refine wk_if xd_920b745c (t := 82) rfl (fun h => absurd (aw_eq_t hxc10_ hb_z h) (by omega)) (fun _ => ?_)
          refine wk_aload_n xd_884b5e04 rfl ?_
          refine wk_iconst xd_160c6dc1 ?_
          refine wk_iconst xd_c9c48671 ?_
          refine wk_sipush xd_083529d0 ?_
          obtain ⟨xt12_, wt12_, hCt12_, hVt12_, hRt12_⟩ := cr_puts (i := 5) (to := (Int32.ofInt 5)) (a := (Int32.ofInt 0)) (b := ((Int16.ofInt 399).toInt32)) (lo := 0) (hi := 399) hMc10_ (by have e9 := (show ((Int32.ofInt 5)).toInt = 5 from by decide); omega) (by omega) (by decide) (by decide)
          have hVt12_a := cr_V_tr hVc10_a hVt12_
          refine wk_call (kd := 0) (i := 217) xd_3dc5fd95 rfl (wk_cal (as := [.inr (.inr (some 184)), .inl (Int32.ofInt 5), .inl (Int32.ofInt 0), .inl ((Int16.ofInt 399).toInt32)]) (t := []) xl_635aa528 rfl xn_eda6dc14 xc_8abdef2b rfl rfl xv_80098d93 rfl) (cm_C_mono (by omega) hCt12_) ?_
          rcases hRt12_ with ⟨et12_, hxt12_, hMt12_⟩ | ⟨et12_, hxt12_, hBt12_⟩
          · skip
            refine wk_if xd_fc51c53c (t := 82) rfl (fun h => absurd (aw_eq_t hxt12_ hb_z h) (by omega)) (fun _ => ?_)
            refine wk_aload_n xd_3d9f8556 rfl ?_
            refine wk_bipush xd_e947b896 ?_
            refine wk_iconst xd_708b473c ?_
            refine wk_sipush xd_52a5ac47 ?_
            obtain ⟨xt14_, wt14_, hCt14_, hVt14_, hRt14_⟩ := cr_puts (i := 6) (to := ((Int8.ofInt 6).toInt32)) (a := (Int32.ofInt 1)) (b := ((Int16.ofInt 200).toInt32)) (lo := 1) (hi := 200) hMt12_ (by have e9 := (show (((Int8.ofInt 6).toInt32)).toInt = 6 from by decide); omega) (by omega) (by decide) (by decide)
            have hVt14_a := cr_V_tr hVt12_a hVt14_
            refine wk_call (kd := 0) (i := 217) xd_61178f7b rfl (wk_cal (as := [.inr (.inr (some 184)), .inl ((Int8.ofInt 6).toInt32), .inl (Int32.ofInt 1), .inl ((Int16.ofInt 200).toInt32)]) (t := []) xl_635aa528 rfl xn_eda6dc14 xc_8abdef2b rfl rfl xv_80098d93 rfl) (cm_C_mono (by omega) hCt14_) ?_
            rcases hRt14_ with ⟨et14_, hxt14_, hMt14_⟩ | ⟨et14_, hxt14_, hBt14_⟩
            · skip
              refine wk_if xd_16d076e8 (t := 82) rfl (fun h => absurd (aw_eq_t hxt14_ hb_z h) (by omega)) (fun _ => ?_)
              refine wk_iconst xd_ebf8ade8 ?_
              refine wk_goto xd_6c73e976 (t := 83) rfl ?_
              exact wk_ireturn xd_722884db xr_5b17d66c wk_z1 ⟨_, _, rfl, hVt14_a, cr_P_n ((ps_line_1 hw1).trans (ps_wint_n ez ((ps_nums_ok et12_).trans (ps_nums_ok et14_)))) (by decide) hMt14_ (ps_Q_wint hQ)⟩
            · skip
              refine wk_if xd_16d076e8 (t := 82) rfl (fun _ => ?_) (fun h => absurd (aw_eq_f hxt14_ hb_z h) (by omega))
              refine wk_iconst xd_378bb050 ?_
              exact wk_ireturn xd_722884db xr_5b17d66c wk_z0 ⟨_, _, rfl, hVt14_a, cr_P_e ((ps_line_1 hw1).trans (ps_wint_e ez ((ps_nums_ok et12_).trans (ps_nums_no et14_)))) (by decide) hBt14_⟩
          · skip
            refine wk_if xd_fc51c53c (t := 82) rfl (fun _ => ?_) (fun h => absurd (aw_eq_f hxt12_ hb_z h) (by omega))
            refine wk_iconst xd_378bb050 ?_
            exact wk_ireturn xd_722884db xr_5b17d66c wk_z0 ⟨_, _, rfl, hVt12_a, cr_P_e ((ps_line_1 hw1).trans (ps_wint_e ez (ps_nums_no et12_))) (by decide) hBt12_⟩
        · skip
          refine wk_if xd_920b745c (t := 82) rfl (fun _ => ?_) (fun h => absurd (aw_eq_f hxc10_ hb_z h) (by omega))
          refine wk_iconst xd_378bb050 ?_
          exact wk_ireturn xd_722884db xr_5b17d66c wk_z0 ⟨_, _, rfl, hVc10_a, cr_P_e ((ps_line_1 hw1).trans (ps_wint_f ez)) (by decide) hBc10_⟩
      · skip
        refine wk_if xd_53a38f7b (t := 84) rfl (fun _ => ?_) (fun h => absurd (aw_eq_f hx1 hb_z h) (by omega))
        refine wk_aload_n xd_c4dc016c rfl ?_
        refine aw_ldc2 xl_c6a4e567 rfl xd_4a715e50 ?_
        obtain ⟨x2, hC2, hx2⟩ := mw_ok (w := w) (l := (Int64.ofNat 123581014175598)) (c := tx_rw.getD 2 0) cr_w2 (tx_rw32 (by omega)) hM.1.2.1
        refine wk_call (kd := 0) (i := 210) xd_e246e280 rfl (wk_cal (as := [.inr (.inr (some 184)), .inr (.inl (Int64.ofNat 123581014175598))]) (t := []) xl_6b97710b rfl xn_94b640da xc_24159032 rfl rfl xv_bdbd9e17 rfl) (cm_C_mono (by omega) hC2) ?_
        rcases hx2 with ⟨hx2, hw2⟩ | ⟨hx2, hn2⟩
        · have hs : 1 ≤ (tx_tk T n m p).1 ∧ (tx_tk T n m p).1 ≤ 3 := by have := hw2.1; omega
          refine wk_if xd_e4448cf7 (t := 186) rfl (fun h => absurd (aw_eq_t hx2 hb_z h) (by omega)) (fun _ => ?_)
          refine wk_aload_n xd_45f9644b rfl ?_
          refine wk_getR xf_d8b79466 xd_7d7bba27 ?_
          refine wk_iconst xd_3bebb504 ?_
          refine aw_iaload (i := 0) xf_9cb75a54 (show ((Int32.ofInt 0)).toInt = 0 from by decide) (by omega) (by omega) xd_08c850f9 ?_
          refine wk_istore_n xd_2eda501c (by rw [xm_ce8e43a0]; rfl) rfl ?_
          refine wk_iload_n xd_511bc4f1 rfl ?_
          refine wk_bipush xd_d523e359 ?_
          refine wk_icmp xd_83ebf113 (t := 113) rfl (fun h104_20 => ?_) (fun h104_20 => ?_)
          · have h104_20 := aw_ne_t (a := (((h 0).toNat : Int) : Int)) (b := (6 : Int)) (show ((w.1 187 0)).toInt = (((h 0).toNat : Int) : Int) from hcn.1) (show (((Int8.ofInt 6).toInt32)).toInt = 6 from by decide) h104_20
            refine wk_aload_n xd_5acb88e2 rfl ?_
            obtain ⟨wn22_, hCn22_, hVn22_, hMn22_⟩ := cr_next hM hs
            have hVn22_a := cr_V_tr (cr_V_rf w) hVn22_
            refine wk_call (kd := 0) (i := 179) xd_472a9511 rfl (wk_cal (as := [.inr (.inr (some 184))]) (t := []) xl_a3c25762 rfl xn_00af7311 xc_b2cf5bb1 rfl rfl xv_e7aa8f3d rfl) (cm_C_mono (by omega) hCn22_) ?_
            refine wk_aload_n xd_5a972971 rfl ?_
            refine wk_bipush xd_25cff41d ?_
            refine wk_iload_n xd_1353e22a rfl ?_
            refine aw_iadd (a := (16 : Int)) (b := (((h 0).toNat : Int) : Int)) (e := (((h 0).toNat : Int) + 16 : Int)) xd_0ce1faed (show (((Int8.ofInt 16).toInt32)).toInt = 16 from by decide) (show ((w.1 187 0)).toInt = (((h 0).toNat : Int) : Int) from hcn.1) (by omega) (by omega) (by omega) (fun v23_ p23_ => ?_)
            obtain ⟨xf24_, wf24_, hCf24_, hVf24_, hRf24_⟩ := cr_fresh (i := ((h 0).toNat)) (to := v23_) hMn22_ hQ (by have e9 := p23_; omega) (by omega)
            have hVf24_a := cr_V_tr hVn22_a hVf24_
            refine wk_call (kd := 0) (i := 220) xd_c4500617 rfl (wk_cal (as := [.inr (.inr (some 184)), .inl v23_]) (t := []) xl_0a0d2674 rfl xn_371b9f5f xc_6e87bce9 rfl rfl xv_7fce75a6 rfl) (cm_C_mono (by omega) hCf24_) ?_
            rcases hRf24_ with ⟨c, q, ef, hc, hxf24_, hMf24_⟩ | ⟨kf, qf, ef, hxf24_, hBf24_⟩
            · skip
              refine wk_if xd_63b3c062 (t := 172) rfl (fun h => absurd (aw_eq_t hxf24_ hb_z h) (by omega)) (fun _ => ?_)
              refine wk_aload_n xd_74895bd1 rfl ?_
              refine wk_bipush xd_85ee9240 ?_
              refine wk_iload_n xd_09056dd9 rfl ?_
              refine aw_iadd (a := (7 : Int)) (b := (((h 0).toNat : Int) : Int)) (e := (((h 0).toNat : Int) + 7 : Int)) xd_3185a7d7 (show (((Int8.ofInt 7).toInt32)).toInt = 7 from by decide) (show ((w.1 187 0)).toInt = (((h 0).toNat : Int) : Int) from hcn.1) (by omega) (by omega) (by omega) (fun v26_ p26_ => ?_)
              refine wk_iconst xd_dbf0143e ?_
              refine wk_bipush xd_53671735 ?_
              obtain ⟨xt27_, wt27_, hCt27_, hVt27_, hRt27_⟩ := cr_puts (i := (7 + (h 0).toNat)) (to := v26_) (a := (Int32.ofInt 0)) (b := ((Int8.ofInt 9).toInt32)) (lo := 0) (hi := 9) hMf24_ (by have e9 := p26_; omega) (by omega) (by decide) (by decide)
              have hVt27_a := cr_V_tr hVf24_a hVt27_
              refine wk_call (kd := 0) (i := 217) xd_3aa10e47 rfl (wk_cal (as := [.inr (.inr (some 184)), .inl v26_, .inl (Int32.ofInt 0), .inl ((Int8.ofInt 9).toInt32)]) (t := []) xl_635aa528 rfl xn_eda6dc14 xc_8abdef2b rfl rfl xv_80098d93 rfl) (cm_C_mono (by omega) hCt27_) ?_
              rcases hRt27_ with ⟨et27_, hxt27_, hMt27_⟩ | ⟨et27_, hxt27_, hBt27_⟩
              · skip
                refine wk_if xd_294016c8 (t := 172) rfl (fun h => absurd (aw_eq_t hxt27_ hb_z h) (by omega)) (fun _ => ?_)
                refine wk_aload_n xd_299b994e rfl ?_
                refine wk_bipush xd_7350fa0e ?_
                refine wk_iload_n xd_3841fb3d rfl ?_
                refine aw_iadd (a := (13 : Int)) (b := (((h 0).toNat : Int) : Int)) (e := (((h 0).toNat : Int) + 13 : Int)) xd_7013fb9a (show (((Int8.ofInt 13).toInt32)).toInt = 13 from by decide) (show ((w.1 187 0)).toInt = (((h 0).toNat : Int) : Int) from hcn.1) (by omega) (by omega) (by omega) (fun v29_ p29_ => ?_)
                refine wk_iconst xd_f1e81f90 ?_
                refine wk_sipush xd_ea174b79 ?_
                obtain ⟨xt30_, wt30_, hCt30_, hVt30_, hRt30_⟩ := cr_puts (i := (13 + (h 0).toNat)) (to := v29_) (a := (Int32.ofInt 0)) (b := ((Int16.ofInt 199).toInt32)) (lo := 0) (hi := 199) hMt27_ (by have e9 := p29_; omega) (by omega) (by decide) (by decide)
                have hVt30_a := cr_V_tr hVt27_a hVt30_
                refine wk_call (kd := 0) (i := 217) xd_5b59834f rfl (wk_cal (as := [.inr (.inr (some 184)), .inl v29_, .inl (Int32.ofInt 0), .inl ((Int16.ofInt 199).toInt32)]) (t := []) xl_635aa528 rfl xn_eda6dc14 xc_8abdef2b rfl rfl xv_80098d93 rfl) (cm_C_mono (by omega) hCt30_) ?_
                rcases hRt30_ with ⟨et30_, hxt30_, hMt30_⟩ | ⟨et30_, hxt30_, hBt30_⟩
                · skip
                  refine wk_if xd_dbab2e12 (t := 172) rfl (fun h => absurd (aw_eq_t hxt30_ hb_z h) (by omega)) (fun _ => ?_)
                  refine wk_aload_n xd_3391b72e rfl ?_
                  refine wk_bipush xd_ce99fd93 ?_
                  refine wk_iload_n xd_7a557c75 rfl ?_
                  refine aw_iadd (a := (19 : Int)) (b := (((h 0).toNat : Int) : Int)) (e := (((h 0).toNat : Int) + 19 : Int)) xd_e589f70f (show (((Int8.ofInt 19).toInt32)).toInt = 19 from by decide) (show ((w.1 187 0)).toInt = (((h 0).toNat : Int) : Int) from hcn.1) (by omega) (by omega) (by omega) (fun v32_ p32_ => ?_)
                  refine wk_iconst xd_57f73bb9 ?_
                  refine wk_sipush xd_c38db6d5 ?_
                  obtain ⟨xt33_, wt33_, hCt33_, hVt33_, hRt33_⟩ := cr_puts (i := (19 + (h 0).toNat)) (to := v32_) (a := (Int32.ofInt 0)) (b := ((Int16.ofInt 999).toInt32)) (lo := 0) (hi := 999) hMt30_ (by have e9 := p32_; omega) (by omega) (by decide) (by decide)
                  have hVt33_a := cr_V_tr hVt30_a hVt33_
                  refine wk_call (kd := 0) (i := 217) xd_baf111c7 rfl (wk_cal (as := [.inr (.inr (some 184)), .inl v32_, .inl (Int32.ofInt 0), .inl ((Int16.ofInt 999).toInt32)]) (t := []) xl_635aa528 rfl xn_eda6dc14 xc_8abdef2b rfl rfl xv_80098d93 rfl) (cm_C_mono (by omega) hCt33_) ?_
                  rcases hRt33_ with ⟨et33_, hxt33_, hMt33_⟩ | ⟨et33_, hxt33_, hBt33_⟩
                  · skip
                    refine wk_if xd_452e071c (t := 174) rfl (fun _ => ?_) (fun h => absurd (aw_ne_f hxt33_ hb_z h) (by omega))
                    refine wk_aload_n xd_9c4f421c rfl ?_
                    refine wk_getR xf_d8b79466 xd_5a8c2dff ?_
                    refine wk_iconst xd_5b973eed ?_
                    refine wk_dup2 xd_02ba0eb1 ?_
                    refine aw_iaload (i := 0) xf_9cb75a54 (show ((Int32.ofInt 0)).toInt = 0 from by decide) (by omega) (by omega) xd_b52a3897 ?_
                    have ek35_ : (wt33_.1 187 0).toInt = ((h 0).toNat : Int) := by
                      have e8 := congrFun hMt33_.2.2.1 0
                      have e7 : (ps_up (ps_up (ps_up f ((7 + (h 0).toNat)) (tx_tk T n m q).2.2.2.1) ((13 + (h 0).toNat)) (tx_tk T n m (tx_tk T n m q).2.2.1).2.2.2.1) ((19 + (h 0).toNat)) (tx_tk T n m (tx_tk T n m (tx_tk T n m q).2.2.1).2.2.1).2.2.2.1) 0 = h 0 := by
                        have e6 := (ps_Q_c hQ).1
                        exact (ps_up_ne (show 0 ≠ (19 + (h 0).toNat) by omega)).trans ((ps_up_ne (show 0 ≠ (13 + (h 0).toNat) by omega)).trans ((ps_up_ne (show 0 ≠ (7 + (h 0).toNat) by omega)).trans (e6)))
                      have e5 : (wt33_.1 187 0).toInt = (ps_up (ps_up (ps_up f ((7 + (h 0).toNat)) (tx_tk T n m q).2.2.2.1) ((13 + (h 0).toNat)) (tx_tk T n m (tx_tk T n m q).2.2.1).2.2.2.1) ((19 + (h 0).toNat)) (tx_tk T n m (tx_tk T n m (tx_tk T n m q).2.2.1).2.2.1).2.2.2.1) 0 := e8
                      rw [e5, e7]
                      omega
                    refine wk_iconst xd_be9c8e15 ?_
                    refine aw_iadd (a := (((h 0).toNat : Int) : Int)) (b := (1 : Int)) (e := (((h 0).toNat : Int) + 1 : Int)) xd_9b723cfb ek35_ (show ((Int32.ofInt 1)).toInt = 1 from by decide) (by omega) (by omega) (by omega) (fun v36_ p36_ => ?_)
                    refine aw_iastore (i := 0) xf_9cb75a54 (show ((Int32.ofInt 0)).toInt = 0 from by decide) (by omega) (by omega) xd_d2a23745 ?_
                    have hV37_ := cr_V_h (i := 0) (x := v36_) hVt33_a
                    have hM38_ := cr_M_h (i := 0) hMt33_ (show (v36_).toInt = (h 0 + 1) from (by have e9 := p36_; omega))
                    refine wk_iconst xd_f51579d5 ?_
                    exact wk_ireturn xd_83a2c102 xr_5b17d66c wk_z1 ⟨_, _, rfl, hV37_, cr_P_n ((ps_line_2 hw2).trans ((ps_pers_n (by omega) ef).trans (congrArg (ps_end _ _ _ _ _) ((ps_nums_ok et27_).trans ((ps_nums_ok et30_).trans (ps_nums_ok et33_)))))) (by decide) hM38_ (ps_Q_pers hc hQ (by omega))⟩
                  · skip
                    refine wk_if xd_452e071c (t := 174) rfl (fun h => absurd (aw_ne_t hxt33_ hb_z h) (by omega)) (fun _ => ?_)
                    refine wk_iconst xd_cc84d16d ?_
                    exact wk_ireturn xd_a905dc84 xr_5b17d66c wk_z0 ⟨_, _, rfl, hVt33_a, cr_P_e ((ps_line_2 hw2).trans ((ps_pers_n (by omega) ef).trans (congrArg (ps_end _ _ _ _ _) ((ps_nums_ok et27_).trans ((ps_nums_ok et30_).trans (ps_nums_no et33_)))))) (by decide) hBt33_⟩
                · skip
                  refine wk_if xd_dbab2e12 (t := 172) rfl (fun _ => ?_) (fun h => absurd (aw_eq_f hxt30_ hb_z h) (by omega))
                  refine wk_iconst xd_cc84d16d ?_
                  exact wk_ireturn xd_a905dc84 xr_5b17d66c wk_z0 ⟨_, _, rfl, hVt30_a, cr_P_e ((ps_line_2 hw2).trans ((ps_pers_n (by omega) ef).trans (congrArg (ps_end _ _ _ _ _) ((ps_nums_ok et27_).trans (ps_nums_no et30_))))) (by decide) hBt30_⟩
              · skip
                refine wk_if xd_294016c8 (t := 172) rfl (fun _ => ?_) (fun h => absurd (aw_eq_f hxt27_ hb_z h) (by omega))
                refine wk_iconst xd_cc84d16d ?_
                exact wk_ireturn xd_a905dc84 xr_5b17d66c wk_z0 ⟨_, _, rfl, hVt27_a, cr_P_e ((ps_line_2 hw2).trans ((ps_pers_n (by omega) ef).trans (congrArg (ps_end _ _ _ _ _) (ps_nums_no et27_)))) (by decide) hBt27_⟩
            · skip
              refine wk_if xd_63b3c062 (t := 172) rfl (fun _ => ?_) (fun h => absurd (aw_eq_f hxf24_ hb_z h) (by omega))
              refine wk_iconst xd_cc84d16d ?_
              exact wk_ireturn xd_a905dc84 xr_5b17d66c wk_z0 ⟨_, _, rfl, hVf24_a, cr_P_e ((ps_line_2 hw2).trans (ps_pers_e (by omega) ef)) (by decide) hBf24_⟩
          · have h104_20 := aw_ne_f (a := (((h 0).toNat : Int) : Int)) (b := (6 : Int)) (show ((w.1 187 0)).toInt = (((h 0).toNat : Int) : Int) from hcn.1) (show (((Int8.ofInt 6).toInt32)).toInt = 6 from by decide) h104_20
            refine wk_aload_n xd_dbb24c56 rfl ?_
            refine wk_iconst xd_d8ae0083 ?_
            obtain ⟨wr43_, hCr43_, hVr43_, hBr43_⟩ := cr_bad (k := (Int32.ofInt 4)) (c := 4) hM (by decide)
            have hVr43_a := cr_V_tr (cr_V_rf w) hVr43_
            refine wk_call (kd := 0) (i := 176) xd_76e70a77 rfl (wk_cal (as := [.inr (.inr (some 184)), .inl (Int32.ofInt 4)]) (t := []) xl_682323f4 rfl xn_f63023b8 xc_1907b494 rfl rfl xv_a1095a1b rfl) (cm_C_mono (by omega) hCr43_) ?_
            exact wk_ireturn xd_442e059a xr_5b17d66c wk_z0 ⟨_, _, rfl, hVr43_a, cr_P_e ((ps_line_2 hw2).trans (ps_pers_f (by omega))) (by decide) hBr43_⟩
        · skip
          refine wk_if xd_e4448cf7 (t := 186) rfl (fun _ => ?_) (fun h => absurd (aw_eq_f hx2 hb_z h) (by omega))
          refine wk_aload_n xd_92cc9a3c rfl ?_
          refine aw_ldc2 xl_e9c693cd rfl xd_5b8c4c5f ?_
          obtain ⟨x3, hC3, hx3⟩ := mw_ok (w := w) (l := (Int64.ofNat 1718579044)) (c := tx_rw.getD 3 0) cr_w3 (tx_rw32 (by omega)) hM.1.2.1
          refine wk_call (kd := 0) (i := 210) xd_750099f0 rfl (wk_cal (as := [.inr (.inr (some 184)), .inr (.inl (Int64.ofNat 1718579044))]) (t := []) xl_6b97710b rfl xn_94b640da xc_24159032 rfl rfl xv_bdbd9e17 rfl) (cm_C_mono (by omega) hC3) ?_
          rcases hx3 with ⟨hx3, hw3⟩ | ⟨hx3, hn3⟩
          · have hs : 1 ≤ (tx_tk T n m p).1 ∧ (tx_tk T n m p).1 ≤ 3 := by have := hw3.1; omega
            refine wk_if xd_560f00c4 (t := 270) rfl (fun h => absurd (aw_eq_t hx3 hb_z h) (by omega)) (fun _ => ?_)
            refine wk_aload_n xd_13e9ff1b rfl ?_
            refine wk_getR xf_d8b79466 xd_a01dfbaf ?_
            refine wk_iconst xd_f11300db ?_
            refine aw_iaload (i := 1) xf_9cb75a54 (show ((Int32.ofInt 1)).toInt = 1 from by decide) (by omega) (by omega) xd_ccc7a7e7 ?_
            refine wk_istore_n xd_05b671eb (by rw [xm_ce8e43a0]; rfl) rfl ?_
            refine wk_iload_n xd_8960a14b rfl ?_
            refine wk_iconst xd_65521cab ?_
            refine wk_icmp xd_486f813e (t := 214) rfl (fun h205_45 => ?_) (fun h205_45 => ?_)
            · have h205_45 := aw_ne_t (a := (((h 1).toNat : Int) : Int)) (b := (4 : Int)) (show ((w.1 187 1)).toInt = (((h 1).toNat : Int) : Int) from hcn.2.1) (show ((Int32.ofInt 4)).toInt = 4 from by decide) h205_45
              refine wk_aload_n xd_199fa61f rfl ?_
              obtain ⟨wn47_, hCn47_, hVn47_, hMn47_⟩ := cr_next hM hs
              have hVn47_a := cr_V_tr (cr_V_rf w) hVn47_
              refine wk_call (kd := 0) (i := 179) xd_12daccd5 rfl (wk_cal (as := [.inr (.inr (some 184))]) (t := []) xl_a3c25762 rfl xn_00af7311 xc_b2cf5bb1 rfl rfl xv_e7aa8f3d rfl) (cm_C_mono (by omega) hCn47_) ?_
              refine wk_aload_n xd_197a44aa rfl ?_
              refine wk_bipush xd_f8457cf4 ?_
              refine wk_iload_n xd_bdcdbead rfl ?_
              refine aw_iadd (a := (22 : Int)) (b := (((h 1).toNat : Int) : Int)) (e := (((h 1).toNat : Int) + 22 : Int)) xd_49ce6a45 (show (((Int8.ofInt 22).toInt32)).toInt = 22 from by decide) (show ((w.1 187 1)).toInt = (((h 1).toNat : Int) : Int) from hcn.2.1) (by omega) (by omega) (by omega) (fun v48_ p48_ => ?_)
              obtain ⟨xf49_, wf49_, hCf49_, hVf49_, hRf49_⟩ := cr_fresh (i := (6 + (h 1).toNat)) (to := v48_) hMn47_ hQ (by have e9 := p48_; omega) (by omega)
              have hVf49_a := cr_V_tr hVn47_a hVf49_
              refine wk_call (kd := 0) (i := 220) xd_91a05fd3 rfl (wk_cal (as := [.inr (.inr (some 184)), .inl v48_]) (t := []) xl_0a0d2674 rfl xn_371b9f5f xc_6e87bce9 rfl rfl xv_7fce75a6 rfl) (cm_C_mono (by omega) hCf49_) ?_
              rcases hRf49_ with ⟨c, q, ef, hc, hxf49_, hMf49_⟩ | ⟨kf, qf, ef, hxf49_, hBf49_⟩
              · skip
                refine wk_if xd_da0a6a65 (t := 256) rfl (fun h => absurd (aw_eq_t hxf49_ hb_z h) (by omega)) (fun _ => ?_)
                refine wk_aload_n xd_da170756 rfl ?_
                refine wk_bipush xd_0894c519 ?_
                refine wk_iload_n xd_4a0de2b7 rfl ?_
                refine aw_iadd (a := (25 : Int)) (b := (((h 1).toNat : Int) : Int)) (e := (((h 1).toNat : Int) + 25 : Int)) xd_717e5cfc (show (((Int8.ofInt 25).toInt32)).toInt = 25 from by decide) (show ((w.1 187 1)).toInt = (((h 1).toNat : Int) : Int) from hcn.2.1) (by omega) (by omega) (by omega) (fun v51_ p51_ => ?_)
                refine wk_iconst xd_db57aae6 ?_
                refine wk_bipush xd_c0ca4338 ?_
                obtain ⟨xt52_, wt52_, hCt52_, hVt52_, hRt52_⟩ := cr_puts (i := (25 + (h 1).toNat)) (to := v51_) (a := (Int32.ofInt 1)) (b := ((Int8.ofInt 60).toInt32)) (lo := 1) (hi := 60) hMf49_ (by have e9 := p51_; omega) (by omega) (by decide) (by decide)
                have hVt52_a := cr_V_tr hVf49_a hVt52_
                refine wk_call (kd := 0) (i := 217) xd_6f515783 rfl (wk_cal (as := [.inr (.inr (some 184)), .inl v51_, .inl (Int32.ofInt 1), .inl ((Int8.ofInt 60).toInt32)]) (t := []) xl_635aa528 rfl xn_eda6dc14 xc_8abdef2b rfl rfl xv_80098d93 rfl) (cm_C_mono (by omega) hCt52_) ?_
                rcases hRt52_ with ⟨et52_, hxt52_, hMt52_⟩ | ⟨et52_, hxt52_, hBt52_⟩
                · skip
                  refine wk_if xd_a1676d47 (t := 256) rfl (fun h => absurd (aw_eq_t hxt52_ hb_z h) (by omega)) (fun _ => ?_)
                  refine wk_aload_n xd_8705c5c9 rfl ?_
                  refine wk_bipush xd_fc20befc ?_
                  refine wk_iload_n xd_7b497453 rfl ?_
                  refine aw_iadd (a := (29 : Int)) (b := (((h 1).toNat : Int) : Int)) (e := (((h 1).toNat : Int) + 29 : Int)) xd_30e800b1 (show (((Int8.ofInt 29).toInt32)).toInt = 29 from by decide) (show ((w.1 187 1)).toInt = (((h 1).toNat : Int) : Int) from hcn.2.1) (by omega) (by omega) (by omega) (fun v54_ p54_ => ?_)
                  refine wk_iconst xd_756caef8 ?_
                  refine wk_iconst xd_aaa44548 ?_
                  obtain ⟨xt55_, wt55_, hCt55_, hVt55_, hRt55_⟩ := cr_puts (i := (29 + (h 1).toNat)) (to := v54_) (a := (Int32.ofInt 0)) (b := (Int32.ofInt 5)) (lo := 0) (hi := 5) hMt52_ (by have e9 := p54_; omega) (by omega) (by decide) (by decide)
                  have hVt55_a := cr_V_tr hVt52_a hVt55_
                  refine wk_call (kd := 0) (i := 217) xd_0ea9da8b rfl (wk_cal (as := [.inr (.inr (some 184)), .inl v54_, .inl (Int32.ofInt 0), .inl (Int32.ofInt 5)]) (t := []) xl_635aa528 rfl xn_eda6dc14 xc_8abdef2b rfl rfl xv_80098d93 rfl) (cm_C_mono (by omega) hCt55_) ?_
                  rcases hRt55_ with ⟨et55_, hxt55_, hMt55_⟩ | ⟨et55_, hxt55_, hBt55_⟩
                  · skip
                    refine wk_if xd_b4074b2b (t := 258) rfl (fun _ => ?_) (fun h => absurd (aw_ne_f hxt55_ hb_z h) (by omega))
                    refine wk_aload_n xd_707cdaf5 rfl ?_
                    refine wk_getR xf_d8b79466 xd_2be4921f ?_
                    refine wk_iconst xd_3289bb21 ?_
                    refine wk_dup2 xd_687406ac ?_
                    refine aw_iaload (i := 1) xf_9cb75a54 (show ((Int32.ofInt 1)).toInt = 1 from by decide) (by omega) (by omega) xd_1170723e ?_
                    have ek57_ : (wt55_.1 187 1).toInt = ((h 1).toNat : Int) := by
                      have e8 := congrFun hMt55_.2.2.1 1
                      have e7 : (ps_up (ps_up f ((25 + (h 1).toNat)) (tx_tk T n m q).2.2.2.1) ((29 + (h 1).toNat)) (tx_tk T n m (tx_tk T n m q).2.2.1).2.2.2.1) 1 = h 1 := by
                        have e6 := (ps_Q_c hQ).2.1
                        exact (ps_up_ne (show 1 ≠ (29 + (h 1).toNat) by omega)).trans ((ps_up_ne (show 1 ≠ (25 + (h 1).toNat) by omega)).trans (e6))
                      have e5 : (wt55_.1 187 1).toInt = (ps_up (ps_up f ((25 + (h 1).toNat)) (tx_tk T n m q).2.2.2.1) ((29 + (h 1).toNat)) (tx_tk T n m (tx_tk T n m q).2.2.1).2.2.2.1) 1 := e8
                      rw [e5, e7]
                      omega
                    refine wk_iconst xd_57508561 ?_
                    refine aw_iadd (a := (((h 1).toNat : Int) : Int)) (b := (1 : Int)) (e := (((h 1).toNat : Int) + 1 : Int)) xd_ab0eb0a1 ek57_ (show ((Int32.ofInt 1)).toInt = 1 from by decide) (by omega) (by omega) (by omega) (fun v58_ p58_ => ?_)
                    refine aw_iastore (i := 1) xf_9cb75a54 (show ((Int32.ofInt 1)).toInt = 1 from by decide) (by omega) (by omega) xd_7d0c7643 ?_
                    have hV59_ := cr_V_h (i := 1) (x := v58_) hVt55_a
                    have hM60_ := cr_M_h (i := 1) hMt55_ (show (v58_).toInt = (h 1 + 1) from (by have e9 := p58_; omega))
                    refine wk_iconst xd_a59a54a1 ?_
                    exact wk_ireturn xd_09fe8972 xr_5b17d66c wk_z1 ⟨_, _, rfl, hV59_, cr_P_n ((ps_line_3 hw3).trans ((ps_food_n (by omega) ef).trans (congrArg (ps_end _ _ _ _ _) ((ps_nums_ok et52_).trans (ps_nums_ok et55_))))) (by decide) hM60_ (ps_Q_food hc hQ (by omega))⟩
                  · skip
                    refine wk_if xd_b4074b2b (t := 258) rfl (fun h => absurd (aw_ne_t hxt55_ hb_z h) (by omega)) (fun _ => ?_)
                    refine wk_iconst xd_25ad38ac ?_
                    exact wk_ireturn xd_e3492882 xr_5b17d66c wk_z0 ⟨_, _, rfl, hVt55_a, cr_P_e ((ps_line_3 hw3).trans ((ps_food_n (by omega) ef).trans (congrArg (ps_end _ _ _ _ _) ((ps_nums_ok et52_).trans (ps_nums_no et55_))))) (by decide) hBt55_⟩
                · skip
                  refine wk_if xd_a1676d47 (t := 256) rfl (fun _ => ?_) (fun h => absurd (aw_eq_f hxt52_ hb_z h) (by omega))
                  refine wk_iconst xd_25ad38ac ?_
                  exact wk_ireturn xd_e3492882 xr_5b17d66c wk_z0 ⟨_, _, rfl, hVt52_a, cr_P_e ((ps_line_3 hw3).trans ((ps_food_n (by omega) ef).trans (congrArg (ps_end _ _ _ _ _) (ps_nums_no et52_)))) (by decide) hBt52_⟩
              · skip
                refine wk_if xd_da0a6a65 (t := 256) rfl (fun _ => ?_) (fun h => absurd (aw_eq_f hxf49_ hb_z h) (by omega))
                refine wk_iconst xd_25ad38ac ?_
                exact wk_ireturn xd_e3492882 xr_5b17d66c wk_z0 ⟨_, _, rfl, hVf49_a, cr_P_e ((ps_line_3 hw3).trans (ps_food_e (by omega) ef)) (by decide) hBf49_⟩
            · have h205_45 := aw_ne_f (a := (((h 1).toNat : Int) : Int)) (b := (4 : Int)) (show ((w.1 187 1)).toInt = (((h 1).toNat : Int) : Int) from hcn.2.1) (show ((Int32.ofInt 4)).toInt = 4 from by decide) h205_45
              refine wk_aload_n xd_985f218d rfl ?_
              refine wk_iconst xd_9798cd6b ?_
              obtain ⟨wr64_, hCr64_, hVr64_, hBr64_⟩ := cr_bad (k := (Int32.ofInt 4)) (c := 4) hM (by decide)
              have hVr64_a := cr_V_tr (cr_V_rf w) hVr64_
              refine wk_call (kd := 0) (i := 176) xd_a5f21091 rfl (wk_cal (as := [.inr (.inr (some 184)), .inl (Int32.ofInt 4)]) (t := []) xl_682323f4 rfl xn_f63023b8 xc_1907b494 rfl rfl xv_a1095a1b rfl) (cm_C_mono (by omega) hCr64_) ?_
              exact wk_ireturn xd_ad11bf39 xr_5b17d66c wk_z0 ⟨_, _, rfl, hVr64_a, cr_P_e ((ps_line_3 hw3).trans (ps_food_f (by omega))) (by decide) hBr64_⟩
          · skip
            refine wk_if xd_560f00c4 (t := 270) rfl (fun _ => ?_) (fun h => absurd (aw_eq_f hx3 hb_z h) (by omega))
            refine wk_aload_n xd_a9fe55dc rfl ?_
            refine aw_ldc2 xl_c8d1fd23 rfl xd_74fd6948 ?_
            obtain ⟨x4, hC4, hx4⟩ := mw_ok (w := w) (l := (Int64.ofNat 30792258880630375)) (c := tx_rw.getD 4 0) cr_w4 (tx_rw32 (by omega)) hM.1.2.1
            refine wk_call (kd := 0) (i := 210) xd_bfd3a8ca rfl (wk_cal (as := [.inr (.inr (some 184)), .inr (.inl (Int64.ofNat 30792258880630375))]) (t := []) xl_6b97710b rfl xn_94b640da xc_24159032 rfl rfl xv_bdbd9e17 rfl) (cm_C_mono (by omega) hC4) ?_
            rcases hx4 with ⟨hx4, hw4⟩ | ⟨hx4, hn4⟩
            · have hs : 1 ≤ (tx_tk T n m p).1 ∧ (tx_tk T n m p).1 ≤ 3 := by have := hw4.1; omega
              refine wk_if xd_75e08b4d (t := 285) rfl (fun h => absurd (aw_eq_t hx4 hb_z h) (by omega)) (fun _ => ?_)
              refine wk_aload_n xd_4aeb5e15 rfl ?_
              obtain ⟨x, w1, hC1, hV1, hP1⟩ := cr_meet hM hQ hs
              refine wk_call (kd := 0) (i := 223) xd_101ecde0 rfl (wk_cal (as := [.inr (.inr (some 184))]) (t := []) xl_cffc8e67 rfl xn_e70c7bfb xc_1deb6fa2 rfl rfl xv_edecac75 rfl) (cm_C_mono (by omega) hC1) ?_
              exact wk_ireturn xd_6a9d7ba1 xr_5b17d66c (cr_P_bit hP1) ⟨_, _, rfl, hV1, by rw [ps_line_4 hw4]; exact hP1⟩
            · skip
              refine wk_if xd_75e08b4d (t := 285) rfl (fun _ => ?_) (fun h => absurd (aw_eq_f hx4 hb_z h) (by omega))
              refine wk_aload_n xd_d1c41552 rfl ?_
              refine aw_ldc2 xl_dabbeb79 rfl xd_dd7e6240 ?_
              obtain ⟨x5, hC5, hx5⟩ := mw_ok (w := w) (l := (Int64.ofNat 1684365940)) (c := tx_rw.getD 5 0) cr_w5 (tx_rw32 (by omega)) hM.1.2.1
              refine wk_call (kd := 0) (i := 210) xd_a6158316 rfl (wk_cal (as := [.inr (.inr (some 184)), .inr (.inl (Int64.ofNat 1684365940))]) (t := []) xl_6b97710b rfl xn_94b640da xc_24159032 rfl rfl xv_bdbd9e17 rfl) (cm_C_mono (by omega) hC5) ?_
              rcases hx5 with ⟨hx5, hw5⟩ | ⟨hx5, hn5⟩
              · have hs : 1 ≤ (tx_tk T n m p).1 ∧ (tx_tk T n m p).1 ≤ 3 := by have := hw5.1; omega
                refine wk_if xd_f9f24fe4 (t := 302) rfl (fun h => absurd (aw_eq_t hx5 hb_z h) (by omega)) (fun _ => ?_)
                refine wk_aload_n xd_50e17075 rfl ?_
                obtain ⟨x, w1, hC1, hV1, hP1⟩ := cr_debt hM hQ hs
                refine wk_call (kd := 0) (i := 226) xd_0193dd0d rfl (wk_cal (as := [.inr (.inr (some 184))]) (t := []) xl_d06cddf8 rfl xn_a0ac012b xc_2cae2c4f rfl rfl xv_b6fb1d60 rfl) (cm_C_mono (by omega) hC1) ?_
                refine wk_goto xd_99b0a383 (t := 307) rfl ?_
                exact wk_ireturn xd_33b33596 xr_5b17d66c (cr_P_bit hP1) ⟨_, _, rfl, hV1, by rw [ps_line_5 hw5]; exact hP1⟩
              · skip
                refine wk_if xd_f9f24fe4 (t := 302) rfl (fun _ => ?_) (fun h => absurd (aw_eq_f hx5 hb_z h) (by omega))
                refine wk_aload_n xd_d0fb214c rfl ?_
                refine wk_iconst xd_494ec8bc ?_
                obtain ⟨wr70_, hCr70_, hVr70_, hBr70_⟩ := cr_bad (k := (Int32.ofInt 1)) (c := 1) hM (by decide)
                have hVr70_a := cr_V_tr (cr_V_rf w) hVr70_
                refine wk_call (kd := 0) (i := 176) xd_5945268c rfl (wk_cal (as := [.inr (.inr (some 184)), .inl (Int32.ofInt 1)]) (t := []) xl_682323f4 rfl xn_f63023b8 xc_1907b494 rfl rfl xv_a1095a1b rfl) (cm_C_mono (by omega) hCr70_) ?_
                have hno : ∀ k, k < 6 → ¬ ps_wd (tx_tk T n m p) k := fun k hk => by
                  rcases (show k = 0 ∨ k = 1 ∨ k = 2 ∨ k = 3 ∨ k = 4 ∨ k = 5 by omega) with rfl | rfl | rfl | rfl | rfl | rfl
                  · exact hn0
                  · exact hn1
                  · exact hn2
                  · exact hn3
                  · exact hn4
                  · exact hn5
                exact wk_ireturn xd_33b33596 xr_5b17d66c wk_z0 ⟨_, _, rfl, hVr70_a, cr_P_e (ps_line_no hno) (by decide) hBr70_⟩
  obtain ⟨o, hC, x, w', rfl, a⟩ := h
  exact ⟨x, w', hC, a⟩

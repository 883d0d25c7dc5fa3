set_option maxRecDepth 100000 in
theorem xd_f8a73e27 : decode (ia_code 280) 0 = .ok (.aload_n 0, 1) := fdd_d (by decide +kernel)
set_option maxRecDepth 100000 in
theorem xd_431754fe : decode (ia_code 280) 1 = .ok (.iload_n 2, 1) := fdd_d (by decide +kernel)
set_option maxRecDepth 100000 in
theorem xd_08924473 : decode (ia_code 280) 2 = .ok (.iload_n 3, 1) := fdd_d (by decide +kernel)
set_option maxRecDepth 100000 in
theorem xl_9a438a57 : ia_pl (ia_cls 280) 189 = some (1, 285, 0, 0, 1683) := by decide +kernel
set_option maxRecDepth 100000 in
theorem xd_89d1b49e : decode (ia_code 280) 3 = .ok (.invokevirtual 189, 3) := fdd_d (by decide +kernel)
set_option maxRecDepth 100000 in
theorem xd_89b98abc : decode (ia_code 280) 6 = .ok (.ifCond .ne 5, 3) := fdd_d (by decide +kernel)
set_option maxRecDepth 100000 in
theorem xd_b6e925ca : decode (ia_code 280) 11 = .ok (.aload_n 0, 1) := fdd_d (by decide +kernel)
set_option maxRecDepth 100000 in
theorem xd_ce5eb766 : decode (ia_code 280) 12 = .ok (.getfield 37, 3) := fdd_d (by decide +kernel)
set_option maxRecDepth 100000 in
theorem xf_6285a21e : wk_gf 280 37 184 7 (187 + 3) = true := by decide +kernel
set_option maxRecDepth 100000 in
theorem xd_d1d67e84 : decode (ia_code 280) 15 = .ok (.iload_n 1, 1) := fdd_d (by decide +kernel)
set_option maxRecDepth 100000 in
theorem xd_c050bd64 : decode (ia_code 280) 16 = .ok (.aload_n 0, 1) := fdd_d (by decide +kernel)
set_option maxRecDepth 100000 in
theorem xd_5124a9e7 : decode (ia_code 280) 17 = .ok (.getfield 186, 3) := fdd_d (by decide +kernel)
set_option maxRecDepth 100000 in
theorem xf_18355972 : wk_gf 280 186 184 18 0 = true := by decide +kernel
set_option maxRecDepth 100000 in
theorem xd_811ffaf0 : decode (ia_code 280) 20 = .ok (.iastore, 1) := fdd_d (by decide +kernel)
set_option maxRecDepth 100000 in
theorem xd_3cbcd99b : decode (ia_code 280) 21 = .ok (.iconst 1, 1) := fdd_d (by decide +kernel)
set_option maxRecDepth 100000 in
theorem xd_c2e6080c : decode (ia_code 280) 22 = .ok (.ireturn, 1) := fdd_d (by decide +kernel)
set_option maxRecDepth 100000 in
theorem xr_fef22980 : ia_ret 280 = some .boolean := by decide +kernel
set_option maxRecDepth 100000 in
theorem xd_93ca3234 : decode (ia_code 280) 9 = .ok (.iconst 0, 1) := fdd_d (by decide +kernel)
set_option maxRecDepth 100000 in
theorem xd_1f5aa431 : decode (ia_code 280) 10 = .ok (.ireturn, 1) := fdd_d (by decide +kernel)
set_option maxRecDepth 100000 in
theorem xm_911b2e90 : ia_maxL 280 = 4 := by decide +kernel
set_option maxRecDepth 100000 in
theorem xd_0a364518 : decode (ia_code 256) 0 = .ok (.aload_n 0, 1) := fdd_d (by decide +kernel)
set_option maxRecDepth 100000 in
theorem xl_5e81532b : ia_pl (ia_cls 256) 193 = some (1, 262, 0, 0, 1694) := by decide +kernel
set_option maxRecDepth 100000 in
theorem xn_dd061a8b : ia_na 262 = 1 := by decide +kernel
set_option maxRecDepth 100000 in
theorem xc_45d1603c : ia_mc 262 = 0 ∧ ia_ms 262 = 0 := ⟨by decide +kernel, by decide +kernel⟩
set_option maxRecDepth 100000 in
theorem xv_c982c530 : cm_rcv 262 [.inr (.inr (some 184))] = true := by decide +kernel
set_option maxRecDepth 100000 in
theorem xd_43beade3 : decode (ia_code 256) 1 = .ok (.invokevirtual 193, 3) := fdd_d (by decide +kernel)
set_option maxRecDepth 100000 in
theorem xd_3df78d62 : decode (ia_code 256) 4 = .ok (.ifCond .ne 9, 3) := fdd_d (by decide +kernel)
set_option maxRecDepth 100000 in
theorem xd_edeb4a65 : decode (ia_code 256) 13 = .ok (.aload_n 0, 1) := fdd_d (by decide +kernel)
set_option maxRecDepth 100000 in
theorem xd_920ad42f : decode (ia_code 256) 14 = .ok (.bipush 16, 2) := fdd_d (by decide +kernel)
set_option maxRecDepth 100000 in
theorem xd_76c40122 : decode (ia_code 256) 16 = .ok (.aload_n 0, 1) := fdd_d (by decide +kernel)
set_option maxRecDepth 100000 in
theorem xd_f49ccc23 : decode (ia_code 256) 17 = .ok (.getfield 37, 3) := fdd_d (by decide +kernel)
set_option maxRecDepth 100000 in
theorem xf_d4111e58 : wk_gf 256 37 184 7 (187 + 3) = true := by decide +kernel
set_option maxRecDepth 100000 in
theorem xd_e465efd4 : decode (ia_code 256) 20 = .ok (.iconst 0, 1) := fdd_d (by decide +kernel)
set_option maxRecDepth 100000 in
theorem xd_b3bad0fb : decode (ia_code 256) 21 = .ok (.iaload, 1) := fdd_d (by decide +kernel)
set_option maxRecDepth 100000 in
theorem xl_d1eabe4f : ia_pl (ia_cls 256) 197 = some (1, 255, 0, 0, 1698) := by decide +kernel
set_option maxRecDepth 100000 in
theorem xn_07bcd519 : ia_na 255 = 3 := by decide +kernel
set_option maxRecDepth 100000 in
theorem xc_5fc2ff04 : ia_mc 255 = 0 ∧ ia_ms 255 = 0 := ⟨by decide +kernel, by decide +kernel⟩
set_option maxRecDepth 100000 in
theorem xv_24d9c4b3 : cm_rcv 255 [.inr (.inr (some 184))] = true := by decide +kernel
set_option maxRecDepth 100000 in
theorem xd_8a68e30a : decode (ia_code 256) 22 = .ok (.invokevirtual 197, 3) := fdd_d (by decide +kernel)
set_option maxRecDepth 100000 in
theorem xd_7f158f6c : decode (ia_code 256) 25 = .ok (.ifCond .ge 33, 3) := fdd_d (by decide +kernel)
set_option maxRecDepth 100000 in
theorem xd_f2b1ae21 : decode (ia_code 256) 58 = .ok (.aload_n 0, 1) := fdd_d (by decide +kernel)
set_option maxRecDepth 100000 in
theorem xd_7b174f6a : decode (ia_code 256) 59 = .ok (.iconst 3, 1) := fdd_d (by decide +kernel)
set_option maxRecDepth 100000 in
theorem xl_cc1f52a7 : ia_pl (ia_cls 256) 176 = some (1, 94, 0, 0, 1675) := by decide +kernel
set_option maxRecDepth 100000 in
theorem xd_e1476042 : decode (ia_code 256) 60 = .ok (.invokevirtual 176, 3) := fdd_d (by decide +kernel)
set_option maxRecDepth 100000 in
theorem xd_f2e669c1 : decode (ia_code 256) 63 = .ok (.ireturn, 1) := fdd_d (by decide +kernel)
set_option maxRecDepth 100000 in
theorem xr_aa6d5163 : ia_ret 256 = some .boolean := by decide +kernel
set_option maxRecDepth 100000 in
theorem xd_c3a99956 : decode (ia_code 256) 28 = .ok (.aload_n 0, 1) := fdd_d (by decide +kernel)
set_option maxRecDepth 100000 in
theorem xd_2296a108 : decode (ia_code 256) 29 = .ok (.bipush 22, 2) := fdd_d (by decide +kernel)
set_option maxRecDepth 100000 in
theorem xd_d9465583 : decode (ia_code 256) 31 = .ok (.aload_n 0, 1) := fdd_d (by decide +kernel)
set_option maxRecDepth 100000 in
theorem xd_bfe05db9 : decode (ia_code 256) 32 = .ok (.getfield 37, 3) := fdd_d (by decide +kernel)
set_option maxRecDepth 100000 in
theorem xd_09ffdb70 : decode (ia_code 256) 35 = .ok (.iconst 1, 1) := fdd_d (by decide +kernel)
set_option maxRecDepth 100000 in
theorem xd_cd24f5f6 : decode (ia_code 256) 36 = .ok (.iaload, 1) := fdd_d (by decide +kernel)
set_option maxRecDepth 100000 in
theorem xd_4ecaad35 : decode (ia_code 256) 37 = .ok (.invokevirtual 197, 3) := fdd_d (by decide +kernel)
set_option maxRecDepth 100000 in
theorem xd_4f7c613c : decode (ia_code 256) 40 = .ok (.ifCond .ge 18, 3) := fdd_d (by decide +kernel)
set_option maxRecDepth 100000 in
theorem xd_05c8b11d : decode (ia_code 256) 43 = .ok (.aload_n 0, 1) := fdd_d (by decide +kernel)
set_option maxRecDepth 100000 in
theorem xd_fcbd5df9 : decode (ia_code 256) 44 = .ok (.bipush 26, 2) := fdd_d (by decide +kernel)
set_option maxRecDepth 100000 in
theorem xd_9ee7fa5a : decode (ia_code 256) 46 = .ok (.aload_n 0, 1) := fdd_d (by decide +kernel)
set_option maxRecDepth 100000 in
theorem xd_3915fc6a : decode (ia_code 256) 47 = .ok (.getfield 37, 3) := fdd_d (by decide +kernel)
set_option maxRecDepth 100000 in
theorem xd_e81c241a : decode (ia_code 256) 50 = .ok (.iconst 2, 1) := fdd_d (by decide +kernel)
set_option maxRecDepth 100000 in
theorem xd_da5d56a3 : decode (ia_code 256) 51 = .ok (.iaload, 1) := fdd_d (by decide +kernel)
set_option maxRecDepth 100000 in
theorem xd_32fdf19f : decode (ia_code 256) 52 = .ok (.invokevirtual 197, 3) := fdd_d (by decide +kernel)
set_option maxRecDepth 100000 in
theorem xd_e9a3740d : decode (ia_code 256) 55 = .ok (.ifCond .lt 9, 3) := fdd_d (by decide +kernel)
set_option maxRecDepth 100000 in
theorem xd_aa4ae5bc : decode (ia_code 256) 64 = .ok (.aload_n 0, 1) := fdd_d (by decide +kernel)
set_option maxRecDepth 100000 in
theorem xd_54bc0720 : decode (ia_code 256) 65 = .ok (.getfield 43, 3) := fdd_d (by decide +kernel)
set_option maxRecDepth 100000 in
theorem xf_908c6296 : wk_gf 256 43 184 9 (189 + 3) = true := by decide +kernel
set_option maxRecDepth 100000 in
theorem xd_cdccfdd4 : decode (ia_code 256) 68 = .ok (.iload_n 1, 1) := fdd_d (by decide +kernel)
set_option maxRecDepth 100000 in
theorem xd_31dceddd : decode (ia_code 256) 69 = .ok (.aload_n 0, 1) := fdd_d (by decide +kernel)
set_option maxRecDepth 100000 in
theorem xd_0c51262b : decode (ia_code 256) 70 = .ok (.getfield 163, 3) := fdd_d (by decide +kernel)
set_option maxRecDepth 100000 in
theorem xf_cce02862 : wk_gf 256 163 184 17 1 = true := by decide +kernel
set_option maxRecDepth 100000 in
theorem xd_33a452c2 : decode (ia_code 256) 73 = .ok (.lastore, 1) := fdd_d (by decide +kernel)
set_option maxRecDepth 100000 in
theorem xd_2b6f809b : decode (ia_code 256) 74 = .ok (.aload_n 0, 1) := fdd_d (by decide +kernel)
set_option maxRecDepth 100000 in
theorem xl_51046b5d : ia_pl (ia_cls 256) 179 = some (1, 129, 0, 0, 1646) := by decide +kernel
set_option maxRecDepth 100000 in
theorem xd_a7b5b9ac : decode (ia_code 256) 75 = .ok (.invokevirtual 179, 3) := fdd_d (by decide +kernel)
set_option maxRecDepth 100000 in
theorem xd_fb69ab23 : decode (ia_code 256) 78 = .ok (.iconst 1, 1) := fdd_d (by decide +kernel)
set_option maxRecDepth 100000 in
theorem xd_24f8050a : decode (ia_code 256) 79 = .ok (.ireturn, 1) := fdd_d (by decide +kernel)
set_option maxRecDepth 100000 in
theorem xd_7c8fddb6 : decode (ia_code 256) 7 = .ok (.aload_n 0, 1) := fdd_d (by decide +kernel)
set_option maxRecDepth 100000 in
theorem xd_4af90e17 : decode (ia_code 256) 8 = .ok (.iconst 1, 1) := fdd_d (by decide +kernel)
set_option maxRecDepth 100000 in
theorem xd_c66b056b : decode (ia_code 256) 9 = .ok (.invokevirtual 176, 3) := fdd_d (by decide +kernel)
set_option maxRecDepth 100000 in
theorem xd_08e5d41f : decode (ia_code 256) 12 = .ok (.ireturn, 1) := fdd_d (by decide +kernel)
set_option maxRecDepth 100000 in
theorem xm_4ba66ddb : ia_maxL 256 = 2 := by decide +kernel
set_option maxRecDepth 100000 in
theorem xd_c26438f5 : decode (ia_code 274) 0 = .ok (.aload_n 0, 1) := fdd_d (by decide +kernel)
set_option maxRecDepth 100000 in
theorem xl_53c8d896 : ia_pl (ia_cls 274) 193 = some (1, 262, 0, 0, 1694) := by decide +kernel
set_option maxRecDepth 100000 in
theorem xd_4ef7265e : decode (ia_code 274) 1 = .ok (.invokevirtual 193, 3) := fdd_d (by decide +kernel)
set_option maxRecDepth 100000 in
theorem xd_8339f93a : decode (ia_code 274) 4 = .ok (.ifCond .ne 9, 3) := fdd_d (by decide +kernel)
set_option maxRecDepth 100000 in
theorem xd_339886dd : decode (ia_code 274) 13 = .ok (.aload_n 0, 1) := fdd_d (by decide +kernel)
set_option maxRecDepth 100000 in
theorem xd_45211e73 : decode (ia_code 274) 14 = .ok (.aload_n 0, 1) := fdd_d (by decide +kernel)
set_option maxRecDepth 100000 in
theorem xd_b9310e7a : decode (ia_code 274) 15 = .ok (.iload_n 1, 1) := fdd_d (by decide +kernel)
set_option maxRecDepth 100000 in
theorem xd_88744d97 : decode (ia_code 274) 16 = .ok (.iload_n 2, 1) := fdd_d (by decide +kernel)
set_option maxRecDepth 100000 in
theorem xl_dca335f2 : ia_pl (ia_cls 274) 197 = some (1, 255, 0, 0, 1698) := by decide +kernel
set_option maxRecDepth 100000 in
theorem xd_c3d2269a : decode (ia_code 274) 17 = .ok (.invokevirtual 197, 3) := fdd_d (by decide +kernel)
set_option maxRecDepth 100000 in
theorem xd_cbc4f639 : decode (ia_code 274) 20 = .ok (.putfield 186, 3) := fdd_d (by decide +kernel)
set_option maxRecDepth 100000 in
theorem xf_a4c765d7 : wk_pf 274 186 184 18 0 = true := by decide +kernel
set_option maxRecDepth 100000 in
theorem xd_6b862ff5 : decode (ia_code 274) 23 = .ok (.aload_n 0, 1) := fdd_d (by decide +kernel)
set_option maxRecDepth 100000 in
theorem xd_beec3943 : decode (ia_code 274) 24 = .ok (.getfield 186, 3) := fdd_d (by decide +kernel)
set_option maxRecDepth 100000 in
theorem xf_d6564589 : wk_gf 274 186 184 18 0 = true := by decide +kernel
set_option maxRecDepth 100000 in
theorem xd_b00f9732 : decode (ia_code 274) 27 = .ok (.ifCond .ge 11, 3) := fdd_d (by decide +kernel)
set_option maxRecDepth 100000 in
theorem xd_3367775d : decode (ia_code 274) 38 = .ok (.iconst 1, 1) := fdd_d (by decide +kernel)
set_option maxRecDepth 100000 in
theorem xd_4f92daba : decode (ia_code 274) 39 = .ok (.goto 4, 3) := fdd_d (by decide +kernel)
set_option maxRecDepth 100000 in
theorem xd_599acd73 : decode (ia_code 274) 43 = .ok (.ireturn, 1) := fdd_d (by decide +kernel)
set_option maxRecDepth 100000 in
theorem xr_7b85aa27 : ia_ret 274 = some .boolean := by decide +kernel
set_option maxRecDepth 100000 in
theorem xd_9c4673ef : decode (ia_code 274) 30 = .ok (.aload_n 0, 1) := fdd_d (by decide +kernel)
set_option maxRecDepth 100000 in
theorem xd_e7cc66fd : decode (ia_code 274) 31 = .ok (.iconst 3, 1) := fdd_d (by decide +kernel)
set_option maxRecDepth 100000 in
theorem xl_e8fed12d : ia_pl (ia_cls 274) 176 = some (1, 94, 0, 0, 1675) := by decide +kernel
set_option maxRecDepth 100000 in
theorem xd_c90528da : decode (ia_code 274) 32 = .ok (.invokevirtual 176, 3) := fdd_d (by decide +kernel)
set_option maxRecDepth 100000 in
theorem xd_c2b3b495 : decode (ia_code 274) 35 = .ok (.ifCond .eq 7, 3) := fdd_d (by decide +kernel)
set_option maxRecDepth 100000 in
theorem xd_efad29c3 : decode (ia_code 274) 42 = .ok (.iconst 0, 1) := fdd_d (by decide +kernel)
set_option maxRecDepth 100000 in
theorem xd_b4dda05b : decode (ia_code 274) 7 = .ok (.aload_n 0, 1) := fdd_d (by decide +kernel)
set_option maxRecDepth 100000 in
theorem xd_cfd56325 : decode (ia_code 274) 8 = .ok (.iconst 1, 1) := fdd_d (by decide +kernel)
set_option maxRecDepth 100000 in
theorem xd_cb228ed6 : decode (ia_code 274) 9 = .ok (.invokevirtual 176, 3) := fdd_d (by decide +kernel)
set_option maxRecDepth 100000 in
theorem xd_8dc9b92d : decode (ia_code 274) 12 = .ok (.ireturn, 1) := fdd_d (by decide +kernel)
set_option maxRecDepth 100000 in
theorem xm_0ba9af26 : ia_maxL 274 = 3 := by decide +kernel
set_option maxRecDepth 100000 in
theorem xd_c779e396 : decode (ia_code 286) 0 = .ok (.aload_n 0, 1) := fdd_d (by decide +kernel)
set_option maxRecDepth 100000 in
theorem xd_3b69f39f : decode (ia_code 286) 1 = .ok (.iload_n 1, 1) := fdd_d (by decide +kernel)
set_option maxRecDepth 100000 in
theorem xd_0a2cb072 : decode (ia_code 286) 2 = .ok (.iload_n 2, 1) := fdd_d (by decide +kernel)
set_option maxRecDepth 100000 in
theorem xl_910ba3f1 : ia_pl (ia_cls 286) 201 = some (1, 274, 0, 0, 1710) := by decide +kernel
set_option maxRecDepth 100000 in
theorem xd_bf17811b : decode (ia_code 286) 3 = .ok (.invokevirtual 201, 3) := fdd_d (by decide +kernel)
set_option maxRecDepth 100000 in
theorem xd_18d85a25 : decode (ia_code 286) 6 = .ok (.ifCond .ne 5, 3) := fdd_d (by decide +kernel)
set_option maxRecDepth 100000 in
theorem xd_0ab0780d : decode (ia_code 286) 11 = .ok (.aload_n 0, 1) := fdd_d (by decide +kernel)
set_option maxRecDepth 100000 in
theorem xl_dc458e32 : ia_pl (ia_cls 286) 179 = some (1, 129, 0, 0, 1646) := by decide +kernel
set_option maxRecDepth 100000 in
theorem xd_1bcd0988 : decode (ia_code 286) 12 = .ok (.invokevirtual 179, 3) := fdd_d (by decide +kernel)
set_option maxRecDepth 100000 in
theorem xd_2926ae17 : decode (ia_code 286) 15 = .ok (.iconst 1, 1) := fdd_d (by decide +kernel)
set_option maxRecDepth 100000 in
theorem xd_82bccd51 : decode (ia_code 286) 16 = .ok (.ireturn, 1) := fdd_d (by decide +kernel)
set_option maxRecDepth 100000 in
theorem xr_59c69e88 : ia_ret 286 = some .boolean := by decide +kernel
set_option maxRecDepth 100000 in
theorem xd_f8115e92 : decode (ia_code 286) 9 = .ok (.iconst 0, 1) := fdd_d (by decide +kernel)
set_option maxRecDepth 100000 in
theorem xd_7481c897 : decode (ia_code 286) 10 = .ok (.ireturn, 1) := fdd_d (by decide +kernel)
set_option maxRecDepth 100000 in
theorem xm_803f4e93 : ia_maxL 286 = 3 := by decide +kernel
set_option maxRecDepth 100000 in
theorem xd_ccee60cc : decode (ia_code 245) 0 = .ok (.iload_n 0, 1) := fdd_d (by decide +kernel)
set_option maxRecDepth 100000 in
theorem xd_6afda3a8 : decode (ia_code 245) 1 = .ok (.iload_n 1, 1) := fdd_d (by decide +kernel)
set_option maxRecDepth 100000 in
theorem xd_99b4e8e8 : decode (ia_code 245) 2 = .ok (.ishr, 1) := fdd_d (by decide +kernel)
set_option maxRecDepth 100000 in
theorem xd_18329593 : decode (ia_code 245) 3 = .ok (.iconst 1, 1) := fdd_d (by decide +kernel)
set_option maxRecDepth 100000 in
theorem xd_5e7058b5 : decode (ia_code 245) 4 = .ok (.iand, 1) := fdd_d (by decide +kernel)
set_option maxRecDepth 100000 in
theorem xd_6ac3cf13 : decode (ia_code 245) 5 = .ok (.iconst 1, 1) := fdd_d (by decide +kernel)
set_option maxRecDepth 100000 in
theorem xd_a3715933 : decode (ia_code 245) 6 = .ok (.if_icmp .ne 7, 3) := fdd_d (by decide +kernel)
set_option maxRecDepth 100000 in
theorem xd_37238d10 : decode (ia_code 245) 13 = .ok (.iconst 0, 1) := fdd_d (by decide +kernel)
set_option maxRecDepth 100000 in
theorem xd_2c28c11d : decode (ia_code 245) 14 = .ok (.ireturn, 1) := fdd_d (by decide +kernel)
set_option maxRecDepth 100000 in
theorem xr_16a5bc06 : ia_ret 245 = some .boolean := by decide +kernel
set_option maxRecDepth 100000 in
theorem xd_8f217a13 : decode (ia_code 245) 9 = .ok (.iconst 1, 1) := fdd_d (by decide +kernel)
set_option maxRecDepth 100000 in
theorem xd_e722e547 : decode (ia_code 245) 10 = .ok (.goto 4, 3) := fdd_d (by decide +kernel)
set_option maxRecDepth 100000 in
theorem xm_c75ac4ae : ia_maxL 245 = 2 := by decide +kernel
/-! ## the reference's valley reader: what is known of the world (wip/p4/gen9vn.py) -/
def mv_H (w : cm_W) : Nat → Int := fun j => (w.1 187 j).toInt
def mv_N (w : cm_W) : Nat → Int64 := fun j => w.2 189 (16 + j)
def cr_V (w w' : cm_W) : Prop := ∀ k i, ¬ (k = 184 ∧ (i = 4 ∨ (11 ≤ i ∧ i ≤ 18) ∨ i = 20)) → k ≠ 187 → ¬ (k = 189 ∧ 16 ≤ i) → w'.1 k i = w.1 k i ∧ w'.2 k i = w.2 k i
theorem cr_V_rf (w : cm_W) : cr_V w w := fun _ _ _ _ _ => ⟨rfl, rfl⟩
theorem cr_V_tr {w w1 w2 : cm_W} (h1 : cr_V w w1) (h2 : cr_V w1 w2) : cr_V w w2 := fun k i a b c => ⟨(h2 k i a b c).1.trans (h1 k i a b c).1, (h2 k i a b c).2.trans (h1 k i a b c).2⟩
theorem cr_V_h {w w1 : cm_W} {i : Nat} {x : Int32} (h : cr_V w w1) : cr_V w (cm_u1 w1 187 i x) := fun k j a b c => ⟨(hs_u1_ne (by omega)).trans (h k j a b c).1, (h k j a b c).2⟩
theorem cr_V_u {w w1 : cm_W} {i : Nat} {x : Int32} (h : cr_V w w1) (hi : (11 ≤ i ∧ i ≤ 18) ∨ i = 20) : cr_V w (cm_u1 w1 184 i x) := fun k j a b c => ⟨(hs_u1_ne (by omega)).trans (h k j a b c).1, (h k j a b c).2⟩
theorem cr_V_n {w w1 : cm_W} {i : Nat} {x : Int64} (h : cr_V w w1) (hi : 16 ≤ i) : cr_V w (cm_u2 w1 189 i x) := fun k j a b c => ⟨(h k j a b c).1, (tx_u2_ne (by omega)).trans (h k j a b c).2⟩
theorem cr_V_E {w w' : cm_W} (h : rm_E w w') : cr_V w w' := fun k i a b c => h k i (by omega)
/-- the reader looks at the token from p on, no fault stands; numbers and names; told -/
def cr_M (w : cm_W) (T : Nat → Int) (n m p : Nat) (f : Nat → Int) (g : Nat → Int64) (a0 b0 : Int) : Prop := rm_L w T n m p ∧ (w.1 184 15).toInt = 0 ∧ mv_H w = f ∧ mv_N w = g ∧ w.1 184 20 = Int32.ofInt (a0 + 2 * b0) ∧ (a0 = 0 ∨ a0 = 1) ∧ (b0 = 0 ∨ b0 = 1)
def cr_B (w : cm_W) (k q : Nat) : Prop := (w.1 184 15).toInt = k ∧ (w.1 184 16).toInt = q
theorem rm_L_fr {w w' : cm_W} {T : Nat → Int} {n m p : Nat} (h1 : ∀ i, w'.1 185 i = w.1 185 i) (h2 : ∀ i, i ≤ 14 → w'.1 184 i = w.1 184 i) (h3 : w'.2 184 17 = w.2 184 17) (h4 : ∀ i, w'.2 190 i = w.2 190 i) (h : rm_L w T n m p) : rm_L w' T n m p := by
  obtain ⟨a, b, c⟩ := h
  refine ⟨⟨fun j hj => by rw [h1]; exact a.1 j hj, a.2.1, by rw [h2 3 (by omega)]; exact a.2.2.1, by rw [h2 5 (by omega)]; exact a.2.2.2.1, a.2.2.2.2.1, a.2.2.2.2.2.1, fun k hk => by rw [h4]; exact a.2.2.2.2.2.2 k hk⟩, ?_, c⟩
  unfold rm_C at b ⊢
  rw [h2 12 (by omega), h2 11 (by omega), h2 4 (by omega), h3, h2 14 (by omega)]
  exact b
theorem cr_M_h {w : cm_W} {T : Nat → Int} {n m p : Nat} {f : Nat → Int} {g : Nat → Int64} {a0 b0 : Int} {i : Nat} {x : Int32} {e : Int} (hM : cr_M w T n m p f g a0 b0) (hx : x.toInt = e) : cr_M (cm_u1 w 187 i x) T n m p (ps_up f i e) g a0 b0 := by
  obtain ⟨h1, h2, h3, h4, h5, h6⟩ := hM
  subst h3
  refine ⟨rm_L_fr (w := w) (fun i => hs_u1_ne (by omega)) (fun i _ => hs_u1_ne (by omega)) rfl (fun _ => rfl) h1, by rw [hs_u1_ne (by omega)]; exact h2, ?_, h4, by rw [hs_u1_ne (by omega)]; exact h5, h6⟩
  funext j
  show (if 187 = 187 ∧ j = i then x else w.1 187 j).toInt = if j = i then e else (w.1 187 j).toInt
  by_cases z : j = i
  · rw [if_pos ⟨rfl, z⟩, if_pos z, hx]
  · rw [if_neg (fun y => z y.2), if_neg z]
theorem cr_M_u {w : cm_W} {T : Nat → Int} {n m p : Nat} {f : Nat → Int} {g : Nat → Int64} {a0 b0 : Int} {i : Nat} {x : Int32} (hM : cr_M w T n m p f g a0 b0) (hi : i = 16 ∨ i = 18 ∨ i = 19) : cr_M (cm_u1 w 184 i x) T n m p f g a0 b0 := by
  obtain ⟨h1, h2, h3, h4, h5, h6⟩ := hM
  exact ⟨rm_L_fr (w := w) (fun i => hs_u1_ne (by omega)) (fun j _ => hs_u1_ne (by omega)) rfl (fun _ => rfl) h1, by rw [hs_u1_ne (by omega)]; exact h2, h3, h4, by rw [hs_u1_ne (by omega)]; exact h5, h6⟩
theorem cr_M_n {w : cm_W} {T : Nat → Int} {n m p : Nat} {f : Nat → Int} {g : Nat → Int64} {a0 b0 : Int} {i : Nat} {x : Int64} (hM : cr_M w T n m p f g a0 b0) : cr_M (cm_u2 w 189 (16 + i) x) T n m p f (ps_un g i x) a0 b0 := by
  obtain ⟨h1, h2, h3, h4, h5, h6⟩ := hM
  subst h4
  refine ⟨rm_L_fr (w := w) (fun _ => rfl) (fun _ _ => rfl) (tx_u2_ne (by omega)) (fun _ => tx_u2_ne (by omega)) h1, h2, h3, ?_, h5, h6⟩
  funext j
  show (if 189 = 189 ∧ 16 + j = 16 + i then x else w.2 189 (16 + j)) = if j = i then x else w.2 189 (16 + j)
  by_cases z : j = i
  · rw [if_pos ⟨rfl, by omega⟩, if_pos z]
  · rw [if_neg (fun y => z (by omega)), if_neg z]
theorem cr_M_E {w : cm_W} {T : Nat → Int} {n m p : Nat} {f : Nat → Int} {g : Nat → Int64} {a0 b0 : Int} {w' : cm_W} {q : Nat} (hM : cr_M w T n m p f g a0 b0) (hE : rm_E w w') (hf : w'.1 184 15 = w.1 184 15) (hL : rm_L w' T n m q) : cr_M w' T n m q f g a0 b0 := by
  obtain ⟨h1, h2, h3, h4, h5, h6⟩ := hM
  refine ⟨hL, by rw [hf]; exact h2, ?_, ?_, by rw [(hE 184 20 (by omega)).1]; exact h5, h6⟩
  · rw [← h3]
    funext j
    show (w'.1 187 j).toInt = _
    rw [(hE 187 j (by omega)).1]
    rfl
  · rw [← h4]
    funext j
    show w'.2 189 (16 + j) = _
    rw [(hE 189 (16 + j) (by omega)).2]
    rfl
theorem rm_C_at {w : cm_W} {t : Nat × Nat × Nat × Int × Nat} (h : rm_C w t) (ht : 1 ≤ t.1 ∧ t.1 ≤ 3) : (w.1 184 4).toInt = t.2.2.1 := by
  obtain ⟨_, _, h⟩ := h
  rcases h with a | ⟨_, c, _⟩ | ⟨_, c, _⟩ | ⟨_, c, _⟩ | a
  · omega
  · exact c
  · exact c
  · exact c
  · omega
theorem cr_next {w : cm_W} {T : Nat → Int} {n m p : Nat} {f : Nat → Int} {g : Nat → Int64} {a0 b0 : Int} (hM : cr_M w T n m p f g a0 b0) (ht : 1 ≤ (tx_tk T n m p).1 ∧ (tx_tk T n m p).1 ≤ 3) : ∃ w', cm_C 2 129 [.inr (.inr (some 184))] w (none, w') ∧ cr_V w w' ∧ cr_M w' T n m (tx_tk T n m p).2.2.1 f g a0 b0 := by
  have hb := tx_tk_b (m := m) (T := T) hM.1.2.2 ht
  obtain ⟨w', hC, hS, hR⟩ := mn_ok (w := w) (p := (tx_tk T n m p).2.2.1) hM.1.1 (rm_C_at hM.1.2.1 ht) hb.2.1
  exact ⟨w', hC, cr_V_E (rm_E_S hS), cr_M_E hM (rm_E_S hS) (hS 184 15 (by omega)).1 ⟨rm_T_S hM.1.1 hS, hR, hb.2.1⟩⟩
theorem cr_B_B {w w' : cm_W} {k q : Nat} (h : rm_B w w' k q) : cr_B w' k q := ⟨h.1, h.2.1⟩
theorem cr_bad {w : cm_W} {T : Nat → Int} {n m p : Nat} {f : Nat → Int} {g : Nat → Int64} {a0 b0 : Int} {k : Int32} {c : Nat} (hM : cr_M w T n m p f g a0 b0) (hk : k.toInt = c) : ∃ w', cm_C 1 94 [.inr (.inr (some 184)), .inl k] w (some (.inl (Int32.ofInt 0)), w') ∧ cr_V w w' ∧ cr_B w' c (tx_tk T n m p).2.1 := by
  have hB := rm_bB (w := w) (c := c) hk hM.1.2.1.1
  exact ⟨_, mb_ok, cr_V_E (rm_E_B hB), cr_B_B hB⟩
theorem cr_puts {w : cm_W} {T : Nat → Int} {n m p : Nat} {f : Nat → Int} {g : Nat → Int64} {a0 b0 : Int} {to a b : Int32} {i : Nat} {lo hi : Int} (hM : cr_M w T n m p f g a0 b0) (hto : to.toInt = (i : Int)) (hi79 : i < 79) (ha : a.toInt = lo) (hb : b.toInt = hi) : ∃ x w', cm_C 4 280 [.inr (.inr (some 184)), .inl to, .inl a, .inl b] w (some (.inl x), w') ∧ cr_V w w' ∧ ((tx_num (tx_tk T n m p) lo hi = 0 ∧ x.toInt = 1 ∧ cr_M w' T n m (tx_tk T n m p).2.2.1 (ps_up f i (tx_tk T n m p).2.2.2.1) g a0 b0) ∨ (tx_num (tx_tk T n m p) lo hi ≠ 0 ∧ x.toInt = 0 ∧ cr_B w' (tx_num (tx_tk T n m p) lo hi) (tx_tk T n m p).2.1)) := by
  have h : ∃ o, cm_C (3 + 1) 280 [.inr (.inr (some 184)), .inl to, .inl a, .inl b] w o ∧ (fun o : cm_O => ∃ x w', o = (some (.inl x), w') ∧ cr_V w w' ∧ ((tx_num (tx_tk T n m p) lo hi = 0 ∧ x.toInt = 1 ∧ cr_M w' T n m (tx_tk T n m p).2.2.1 (ps_up f i (tx_tk T n m p).2.2.2.1) g a0 b0) ∨ (tx_num (tx_tk T n m p) lo hi ≠ 0 ∧ x.toInt = 0 ∧ cr_B w' (tx_num (tx_tk T n m p) lo hi) (tx_tk T n m p).2.1))) o := by
    refine wk_entry (by rw [xm_911b2e90]; exact Nat.le_of_ble_eq_true rfl) ?_
    rw [show cm_ent 280 [.inr (.inr (some 184)), .inl to, .inl a, .inl b] = [some (.inr (.inr (some 184))), some (.inl to), some (.inl a), some (.inl b)] from by unfold cm_ent; rw [xm_911b2e90]; rfl]
    refine wk_aload_n xd_f8a73e27 rfl ?_
    refine wk_iload_n xd_431754fe rfl ?_
    refine wk_iload_n xd_08924473 rfl ?_
    obtain ⟨xt, wt, hCt, hRt⟩ := mt_ok (w := w) ha hb hM.1
    refine wk_call (kd := 0) (i := 189) xd_89d1b49e rfl (wk_cal (as := [.inr (.inr (some 184)), .inl a, .inl b]) (t := []) xl_9a438a57 rfl xn_bb22c6c7 xc_d9722b1c rfl rfl xv_6d315eac rfl) (cm_C_mono (by omega) hCt) ?_
    rcases hRt with ⟨e1, _, _, _, hxt, hgt, hLt, hEt, hft⟩ | ⟨e1, hxt, hBt⟩
    · skip
      refine wk_if xd_89b98abc (t := 11) rfl (fun _ => ?_) (fun h => absurd (aw_ne_f hxt hb_z h) (by omega))
      refine wk_aload_n xd_b6e925ca rfl ?_
      refine wk_getR xf_6285a21e xd_ce5eb766 ?_
      refine wk_iload_n xd_d1d67e84 rfl ?_
      refine wk_aload_n xd_c050bd64 rfl ?_
      refine wk_getI xf_18355972 xd_5124a9e7 ?_
      refine aw_iastore (i := i) xf_9cb75a54 hto (by omega) (by omega) xd_811ffaf0 ?_
      have hV2_ := cr_V_h (i := i) (x := (wt.1 184 18)) (cr_V_E hEt)
      have hM3_ := cr_M_h (i := i) (cr_M_E hM hEt hft hLt) (show ((wt.1 184 18)).toInt = ((tx_tk T n m p).2.2.2.1 : Int) from (show ((wt.1 184 18)).toInt = ((tx_tk T n m p).2.2.2.1 : Int) from hgt))
      refine wk_iconst xd_3cbcd99b ?_
      exact wk_ireturn xd_c2e6080c xr_fef22980 wk_z1 ⟨_, _, rfl, hV2_, .inl ⟨e1, by decide, hM3_⟩⟩
    · skip
      refine wk_if xd_89b98abc (t := 11) rfl (fun h => absurd (aw_ne_t hxt hb_z h) (by omega)) (fun _ => ?_)
      refine wk_iconst xd_93ca3234 ?_
      exact wk_ireturn xd_1f5aa431 xr_fef22980 wk_z0 ⟨_, _, rfl, (cr_V_E (rm_E_B hBt)), .inr ⟨e1, by decide, (cr_B_B hBt)⟩⟩
  obtain ⟨o, hC, x, w', rfl, a⟩ := h
  exact ⟨x, w', hC, a⟩
theorem cr_c {w : cm_W} {T : Nat → Int} {n m p : Nat} {f : Nat → Int} {g : Nat → Int64} {a0 b0 : Int} {h : Nat → Int} {nm : Nat → Nat} (hM : cr_M w T n m p f g a0 b0) (hQ : ps_Q tx_F f g h nm) : (w.1 187 0).toInt = ((h 0).toNat : Int) ∧ (w.1 187 1).toInt = ((h 1).toNat : Int) ∧ (w.1 187 2).toInt = ((h 2).toNat : Int) ∧ (w.1 187 3).toInt = ((h 3).toNat : Int) := by
  obtain ⟨-, -, h3, -⟩ := hM
  obtain ⟨q1, q2, q3⟩ := hQ
  subst h3
  unfold ps_bd at q3
  have e0 : (w.1 187 0).toInt = h 0 := q1 0 (.inl (by omega))
  have e1 : (w.1 187 1).toInt = h 1 := q1 1 (.inl (by omega))
  have e2 : (w.1 187 2).toInt = h 2 := q1 2 (.inl (by omega))
  have e3 : (w.1 187 3).toInt = h 3 := q1 3 (.inl (by omega))
  exact ⟨by omega, by omega, by omega, by omega⟩
theorem cr_n0 {w : cm_W} {T : Nat → Int} {n m p : Nat} {f : Nat → Int} {g : Nat → Int64} {a0 b0 : Int} {h : Nat → Int} {nm : Nat → Nat} (hM : cr_M w T n m p f g a0 b0) (hQ : ps_Q tx_F f g h nm) : rm_N w 16 0 (h 0).toNat nm ∧ 16 + (h 0).toNat ≤ 32 := by
  obtain ⟨-, -, -, h4, -⟩ := hM
  obtain ⟨q1, q2, q3⟩ := hQ
  unfold ps_bd at q3
  subst h4
  refine ⟨fun j hj => ?_, by omega⟩
  rw [Nat.zero_add]
  exact q2 j (.inl ⟨by omega, by omega⟩)
theorem cr_n1 {w : cm_W} {T : Nat → Int} {n m p : Nat} {f : Nat → Int} {g : Nat → Int64} {a0 b0 : Int} {h : Nat → Int} {nm : Nat → Nat} (hM : cr_M w T n m p f g a0 b0) (hQ : ps_Q tx_F f g h nm) : rm_N w 22 6 (h 1).toNat nm ∧ 22 + (h 1).toNat ≤ 32 := by
  obtain ⟨-, -, -, h4, -⟩ := hM
  obtain ⟨q1, q2, q3⟩ := hQ
  unfold ps_bd at q3
  subst h4
  refine ⟨fun j hj => ?_, by omega⟩
  have g := q2 (6 + j) (.inr (.inl ⟨by omega, by omega, by omega⟩))
  unfold mv_N at g
  rw [show 16 + (6 + j) = 22 + j by omega] at g
  exact g
theorem cr_n2 {w : cm_W} {T : Nat → Int} {n m p : Nat} {f : Nat → Int} {g : Nat → Int64} {a0 b0 : Int} {h : Nat → Int} {nm : Nat → Nat} (hM : cr_M w T n m p f g a0 b0) (hQ : ps_Q tx_F f g h nm) : rm_N w 26 10 (h 2).toNat nm ∧ 26 + (h 2).toNat ≤ 32 := by
  obtain ⟨-, -, -, h4, -⟩ := hM
  obtain ⟨q1, q2, q3⟩ := hQ
  unfold ps_bd at q3
  subst h4
  refine ⟨fun j hj => ?_, by omega⟩
  have g := q2 (10 + j) (.inr (.inr ⟨by omega, by omega, by omega⟩))
  unfold mv_N at g
  rw [show 16 + (10 + j) = 26 + j by omega] at g
  exact g
theorem rm_C_wat {w : cm_W} {t : Nat × Nat × Nat × Int × Nat} (h : rm_C w t) (h1 : t.1 = 1) : w.2 184 17 = Int64.ofNat (tx_F t.2.2.2.2) ∧ t.2.2.2.2 < 32 ^ 7 := by
  rcases rm_C_word h with ⟨_, _, _, a, b⟩ | ⟨a, _⟩
  · exact ⟨a, b⟩
  · exact absurd h1 a
theorem cr_fresh {w : cm_W} {T : Nat → Int} {n m p : Nat} {f : Nat → Int} {g : Nat → Int64} {a0 b0 : Int} {h : Nat → Int} {nm : Nat → Nat} {to : Int32} {i : Nat} (hM : cr_M w T n m p f g a0 b0) (hQ : ps_Q tx_F f g h nm) (hto : to.toInt = 16 + (i : Int)) (hi16 : i < 16) : ∃ x w', cm_C 4 256 [.inr (.inr (some 184)), .inl to] w (some (.inl x), w') ∧ cr_V w w' ∧ ((∃ c q, ps_fresh T n m h nm p = .inr (c, q) ∧ c < 32 ^ 7 ∧ x.toInt = 1 ∧ cr_M w' T n m q f (ps_un g i (Int64.ofNat (tx_F c))) a0 b0) ∨ (∃ k q, ps_fresh T n m h nm p = .inl (k, q) ∧ x.toInt = 0 ∧ cr_B w' k q)) := by
  have hcn := cr_c hM hQ
  have h : ∃ o, cm_C (3 + 1) 256 [.inr (.inr (some 184)), .inl to] w o ∧ (fun o : cm_O => ∃ x w', o = (some (.inl x), w') ∧ cr_V w w' ∧ ((∃ c q, ps_fresh T n m h nm p = .inr (c, q) ∧ c < 32 ^ 7 ∧ x.toInt = 1 ∧ cr_M w' T n m q f (ps_un g i (Int64.ofNat (tx_F c))) a0 b0) ∨ (∃ k q, ps_fresh T n m h nm p = .inl (k, q) ∧ x.toInt = 0 ∧ cr_B w' k q))) o := by
    refine wk_entry (by rw [xm_4ba66ddb]; exact Nat.le_of_ble_eq_true rfl) ?_
    rw [show cm_ent 256 [.inr (.inr (some 184)), .inl to] = [some (.inr (.inr (some 184))), some (.inl to)] from by unfold cm_ent; rw [xm_4ba66ddb]; rfl]
    refine wk_aload_n xd_0a364518 rfl ?_
    obtain ⟨xn, hCn, hxn⟩ := mN_ok (w := w) hM.1.2.1 hM.1.1.2.2.2.2.2.2
    refine wk_call (kd := 0) (i := 193) xd_43beade3 rfl (wk_cal (as := [.inr (.inr (some 184))]) (t := []) xl_5e81532b rfl xn_dd061a8b xc_45d1603c rfl rfl xv_c982c530 rfl) (cm_C_mono (by omega) hCn) ?_
    rcases hxn with ⟨hxn, hni⟩ | ⟨hxn, hni⟩
    · obtain ⟨hw, hwl⟩ := rm_C_wat hM.1.2.1 hni.1
      refine wk_if xd_3df78d62 (t := 13) rfl (fun _ => ?_) (fun h => absurd (aw_ne_f hxn hb_z h) (by omega))
      refine wk_aload_n xd_edeb4a65 rfl ?_
      refine wk_bipush xd_920ad42f ?_
      refine wk_aload_n xd_76c40122 rfl ?_
      refine wk_getR xf_d4111e58 xd_f49ccc23 ?_
      refine wk_iconst xd_e465efd4 ?_
      refine aw_iaload (i := 0) xf_9cb75a54 (show ((Int32.ofInt 0)).toInt = 0 from by decide) (by omega) (by omega) xd_b3bad0fb ?_
      obtain ⟨xo0, hCo0, eo0⟩ := mf_ok (w := w) (cr_n0 hM hQ).1 (cr_n0 hM hQ).2 hw hwl (show (((Int8.ofInt 16).toInt32)).toInt = 16 from by decide) (show ((w.1 187 0)).toInt = (((h 0).toNat : Int) : Int) from hcn.1)
      have bo0 := tx_find_b (nm := nm) (b := 0) (k := (h 0).toNat) (c := (tx_tk T n m p).2.2.2.2)
      refine wk_call (kd := 0) (i := 197) xd_8a68e30a rfl (wk_cal (as := [.inr (.inr (some 184)), .inl ((Int8.ofInt 16).toInt32), .inl (w.1 187 0)]) (t := []) xl_d1eabe4f rfl xn_07bcd519 xc_5fc2ff04 rfl rfl xv_24d9c4b3 rfl) (cm_C_mono (by omega) hCo0) ?_
      refine wk_if xd_7f158f6c (t := 58) rfl (fun h25_1 => ?_) (fun h25_1 => ?_)
      · have h25_1 := aw_ge_t (a := ((tx_find nm 0 (h 0).toNat (tx_tk T n m p).2.2.2.2) : Int)) (b := (0 : Int)) eo0 hb_z h25_1
        refine wk_aload_n xd_f2b1ae21 rfl ?_
        refine wk_iconst xd_7b174f6a ?_
        obtain ⟨wr3_, hCr3_, hVr3_, hBr3_⟩ := cr_bad (k := (Int32.ofInt 3)) (c := 3) hM (by decide)
        have hVr3_a := cr_V_tr (cr_V_rf w) hVr3_
        refine wk_call (kd := 0) (i := 176) xd_e1476042 rfl (wk_cal (as := [.inr (.inr (some 184)), .inl (Int32.ofInt 3)]) (t := []) xl_cc1f52a7 rfl xn_f63023b8 xc_1907b494 rfl rfl xv_a1095a1b rfl) (cm_C_mono (by omega) hCr3_) ?_
        refine wk_ireturn xd_f2e669c1 xr_aa6d5163 wk_z0 ⟨_, _, rfl, hVr3_a, .inr ⟨3, _, ?_, by decide, hBr3_⟩⟩
        exact (if_pos hni).trans (if_pos (by unfold ps_kn; omega))
      · have h25_1 := aw_ge_f (a := ((tx_find nm 0 (h 0).toNat (tx_tk T n m p).2.2.2.2) : Int)) (b := (0 : Int)) eo0 hb_z h25_1
        refine wk_aload_n xd_c3a99956 rfl ?_
        refine wk_bipush xd_2296a108 ?_
        refine wk_aload_n xd_d9465583 rfl ?_
        refine wk_getR xf_d4111e58 xd_bfe05db9 ?_
        refine wk_iconst xd_09ffdb70 ?_
        refine aw_iaload (i := 1) xf_9cb75a54 (show ((Int32.ofInt 1)).toInt = 1 from by decide) (by omega) (by omega) xd_cd24f5f6 ?_
        obtain ⟨xo1, hCo1, eo1⟩ := mf_ok (w := w) (cr_n1 hM hQ).1 (cr_n1 hM hQ).2 hw hwl (show (((Int8.ofInt 22).toInt32)).toInt = 22 from by decide) (show ((w.1 187 1)).toInt = (((h 1).toNat : Int) : Int) from hcn.2.1)
        have bo1 := tx_find_b (nm := nm) (b := 6) (k := (h 1).toNat) (c := (tx_tk T n m p).2.2.2.2)
        refine wk_call (kd := 0) (i := 197) xd_4ecaad35 rfl (wk_cal (as := [.inr (.inr (some 184)), .inl ((Int8.ofInt 22).toInt32), .inl (w.1 187 1)]) (t := []) xl_d1eabe4f rfl xn_07bcd519 xc_5fc2ff04 rfl rfl xv_24d9c4b3 rfl) (cm_C_mono (by omega) hCo1) ?_
        refine wk_if xd_4f7c613c (t := 58) rfl (fun h40_3 => ?_) (fun h40_3 => ?_)
        · have h40_3 := aw_ge_t (a := ((tx_find nm 6 (h 1).toNat (tx_tk T n m p).2.2.2.2) : Int)) (b := (0 : Int)) eo1 hb_z h40_3
          refine wk_aload_n xd_f2b1ae21 rfl ?_
          refine wk_iconst xd_7b174f6a ?_
          obtain ⟨wr5_, hCr5_, hVr5_, hBr5_⟩ := cr_bad (k := (Int32.ofInt 3)) (c := 3) hM (by decide)
          have hVr5_a := cr_V_tr (cr_V_rf w) hVr5_
          refine wk_call (kd := 0) (i := 176) xd_e1476042 rfl (wk_cal (as := [.inr (.inr (some 184)), .inl (Int32.ofInt 3)]) (t := []) xl_cc1f52a7 rfl xn_f63023b8 xc_1907b494 rfl rfl xv_a1095a1b rfl) (cm_C_mono (by omega) hCr5_) ?_
          refine wk_ireturn xd_f2e669c1 xr_aa6d5163 wk_z0 ⟨_, _, rfl, hVr5_a, .inr ⟨3, _, ?_, by decide, hBr5_⟩⟩
          exact (if_pos hni).trans (if_pos (by unfold ps_kn; omega))
        · have h40_3 := aw_ge_f (a := ((tx_find nm 6 (h 1).toNat (tx_tk T n m p).2.2.2.2) : Int)) (b := (0 : Int)) eo1 hb_z h40_3
          refine wk_aload_n xd_05c8b11d rfl ?_
          refine wk_bipush xd_fcbd5df9 ?_
          refine wk_aload_n xd_9ee7fa5a rfl ?_
          refine wk_getR xf_d4111e58 xd_3915fc6a ?_
          refine wk_iconst xd_e81c241a ?_
          refine aw_iaload (i := 2) xf_9cb75a54 (show ((Int32.ofInt 2)).toInt = 2 from by decide) (by omega) (by omega) xd_da5d56a3 ?_
          obtain ⟨xo2, hCo2, eo2⟩ := mf_ok (w := w) (cr_n2 hM hQ).1 (cr_n2 hM hQ).2 hw hwl (show (((Int8.ofInt 26).toInt32)).toInt = 26 from by decide) (show ((w.1 187 2)).toInt = (((h 2).toNat : Int) : Int) from hcn.2.2.1)
          have bo2 := tx_find_b (nm := nm) (b := 10) (k := (h 2).toNat) (c := (tx_tk T n m p).2.2.2.2)
          refine wk_call (kd := 0) (i := 197) xd_32fdf19f rfl (wk_cal (as := [.inr (.inr (some 184)), .inl ((Int8.ofInt 26).toInt32), .inl (w.1 187 2)]) (t := []) xl_d1eabe4f rfl xn_07bcd519 xc_5fc2ff04 rfl rfl xv_24d9c4b3 rfl) (cm_C_mono (by omega) hCo2) ?_
          refine wk_if xd_e9a3740d (t := 64) rfl (fun h55_5 => ?_) (fun h55_5 => ?_)
          · have h55_5 := aw_lt_t (a := ((tx_find nm 10 (h 2).toNat (tx_tk T n m p).2.2.2.2) : Int)) (b := (0 : Int)) eo2 hb_z h55_5
            refine wk_aload_n xd_aa4ae5bc rfl ?_
            refine wk_getR xf_908c6296 xd_54bc0720 ?_
            refine wk_iload_n xd_cdccfdd4 rfl ?_
            refine wk_aload_n xd_31dceddd rfl ?_
            refine aw_getL xf_cce02862 xd_0c51262b ?_
            have hkn : ¬ ps_kn h nm (tx_tk T n m p).2.2.2.2 := by unfold ps_kn; omega
            refine aw_lastore (i := 16 + i) xf_69b9f963 hto (by omega) (by omega) xd_33a452c2 ?_
            rw [hw]
            refine wk_aload_n xd_2b6f809b rfl ?_
            obtain ⟨wn7_, hCn7_, hVn7_, hMn7_⟩ := cr_next (cr_M_n (i := i) (x := (Int64.ofNat (tx_F (tx_tk T n m p).2.2.2.2))) hM) ⟨by rw [hni.1]; omega, by rw [hni.1]; omega⟩
            have hVn7_a := cr_V_tr (cr_V_n (cr_V_rf w) (by omega)) hVn7_
            refine wk_call (kd := 0) (i := 179) xd_a7b5b9ac rfl (wk_cal (as := [.inr (.inr (some 184))]) (t := []) xl_51046b5d rfl xn_00af7311 xc_b2cf5bb1 rfl rfl xv_e7aa8f3d rfl) (cm_C_mono (by omega) hCn7_) ?_
            refine wk_iconst xd_fb69ab23 ?_
            refine wk_ireturn xd_24f8050a xr_aa6d5163 wk_z1 ⟨_, _, rfl, hVn7_a, .inl ⟨_, _, ?_, hwl, by decide, hMn7_⟩⟩
            exact (if_pos hni).trans (if_neg hkn)
          · have h55_5 := aw_lt_f (a := ((tx_find nm 10 (h 2).toNat (tx_tk T n m p).2.2.2.2) : Int)) (b := (0 : Int)) eo2 hb_z h55_5
            refine wk_aload_n xd_f2b1ae21 rfl ?_
            refine wk_iconst xd_7b174f6a ?_
            obtain ⟨wr8_, hCr8_, hVr8_, hBr8_⟩ := cr_bad (k := (Int32.ofInt 3)) (c := 3) hM (by decide)
            have hVr8_a := cr_V_tr (cr_V_rf w) hVr8_
            refine wk_call (kd := 0) (i := 176) xd_e1476042 rfl (wk_cal (as := [.inr (.inr (some 184)), .inl (Int32.ofInt 3)]) (t := []) xl_cc1f52a7 rfl xn_f63023b8 xc_1907b494 rfl rfl xv_a1095a1b rfl) (cm_C_mono (by omega) hCr8_) ?_
            refine wk_ireturn xd_f2e669c1 xr_aa6d5163 wk_z0 ⟨_, _, rfl, hVr8_a, .inr ⟨3, _, ?_, by decide, hBr8_⟩⟩
            exact (if_pos hni).trans (if_pos (by unfold ps_kn; omega))
    · skip
      refine wk_if xd_3df78d62 (t := 13) rfl (fun h => absurd (aw_ne_t hxn hb_z h) (by omega)) (fun _ => ?_)
      refine wk_aload_n xd_7c8fddb6 rfl ?_
      refine wk_iconst xd_4af90e17 ?_
      obtain ⟨wr10_, hCr10_, hVr10_, hBr10_⟩ := cr_bad (k := (Int32.ofInt 1)) (c := 1) hM (by decide)
      have hVr10_a := cr_V_tr (cr_V_rf w) hVr10_
      refine wk_call (kd := 0) (i := 176) xd_c66b056b rfl (wk_cal (as := [.inr (.inr (some 184)), .inl (Int32.ofInt 1)]) (t := []) xl_cc1f52a7 rfl xn_f63023b8 xc_1907b494 rfl rfl xv_a1095a1b rfl) (cm_C_mono (by omega) hCr10_) ?_
      refine wk_ireturn xd_08e5d41f xr_aa6d5163 wk_z0 ⟨_, _, rfl, hVr10_a, .inr ⟨1, _, ?_, by decide, hBr10_⟩⟩
      exact if_neg hni
  obtain ⟨o, hC, x, w', rfl, a⟩ := h
  exact ⟨x, w', hC, a⟩
theorem cr_look {w : cm_W} {T : Nat → Int} {n m p : Nat} {f : Nat → Int} {g : Nat → Int64} {a0 b0 : Int} {h : Nat → Int} {nm : Nat → Nat} {a b : Int32} (hM : cr_M w T n m p f g a0 b0) (hQ : ps_Q tx_F f g h nm) (ha : a.toInt = 16) (hb : b.toInt = ((h 0).toNat : Int)) : ∃ x w', cm_C 4 274 [.inr (.inr (some 184)), .inl a, .inl b] w (some (.inl x), w') ∧ cr_V w w' ∧ ((∃ i, ps_look T n m nm 0 (h 0).toNat p = .inr i ∧ x.toInt = 1 ∧ (w'.1 184 18).toInt = i ∧ cr_M w' T n m p f g a0 b0) ∨ (∃ k q, ps_look T n m nm 0 (h 0).toNat p = .inl (k, q) ∧ x.toInt = 0 ∧ cr_B w' k q)) := by
  have h : ∃ o, cm_C (3 + 1) 274 [.inr (.inr (some 184)), .inl a, .inl b] w o ∧ (fun o : cm_O => ∃ x w', o = (some (.inl x), w') ∧ cr_V w w' ∧ ((∃ i, ps_look T n m nm 0 (h 0).toNat p = .inr i ∧ x.toInt = 1 ∧ (w'.1 184 18).toInt = i ∧ cr_M w' T n m p f g a0 b0) ∨ (∃ k q, ps_look T n m nm 0 (h 0).toNat p = .inl (k, q) ∧ x.toInt = 0 ∧ cr_B w' k q))) o := by
    refine wk_entry (by rw [xm_0ba9af26]; exact Nat.le_of_ble_eq_true rfl) ?_
    rw [show cm_ent 274 [.inr (.inr (some 184)), .inl a, .inl b] = [some (.inr (.inr (some 184))), some (.inl a), some (.inl b)] from by unfold cm_ent; rw [xm_0ba9af26]; rfl]
    refine wk_aload_n xd_c26438f5 rfl ?_
    obtain ⟨xn, hCn, hxn⟩ := mN_ok (w := w) hM.1.2.1 hM.1.1.2.2.2.2.2.2
    refine wk_call (kd := 0) (i := 193) xd_4ef7265e rfl (wk_cal (as := [.inr (.inr (some 184))]) (t := []) xl_53c8d896 rfl xn_dd061a8b xc_45d1603c rfl rfl xv_c982c530 rfl) (cm_C_mono (by omega) hCn) ?_
    rcases hxn with ⟨hxn, hni⟩ | ⟨hxn, hni⟩
    · obtain ⟨hw, hwl⟩ := rm_C_wat hM.1.2.1 hni.1
      refine wk_if xd_8339f93a (t := 13) rfl (fun _ => ?_) (fun h => absurd (aw_ne_f hxn hb_z h) (by omega))
      refine wk_aload_n xd_339886dd rfl ?_
      refine wk_aload_n xd_45211e73 rfl ?_
      refine wk_iload_n xd_b9310e7a rfl ?_
      refine wk_iload_n xd_88744d97 rfl ?_
      obtain ⟨xo0, hCo0, eo0⟩ := mf_ok (w := w) (cr_n0 hM hQ).1 (cr_n0 hM hQ).2 hw hwl ha hb
      have bo0 := tx_find_b (nm := nm) (b := 0) (k := (h 0).toNat) (c := (tx_tk T n m p).2.2.2.2)
      refine wk_call (kd := 0) (i := 197) xd_c3d2269a rfl (wk_cal (as := [.inr (.inr (some 184)), .inl a, .inl b]) (t := [.inr (.inr (some 184))]) xl_dca335f2 rfl xn_07bcd519 xc_5fc2ff04 rfl rfl xv_24d9c4b3 rfl) (cm_C_mono (by omega) hCo0) ?_
      refine wk_putI xf_a4c765d7 (fun ci => wk_fitI ci) xd_cbc4f639 ?_
      have hV2_ := cr_V_u (i := 18) (x := xo0) (cr_V_rf w) (by omega)
      have hM3_ := cr_M_u (i := 18) (x := xo0) hM (by omega)
      refine wk_aload_n xd_6b862ff5 rfl ?_
      refine wk_getI xf_d6564589 xd_beec3943 ?_
      refine wk_if xd_b00f9732 (t := 38) rfl (fun h27_3 => ?_) (fun h27_3 => ?_)
      · have h27_3 := aw_ge_t (a := ((tx_find nm 0 (h 0).toNat (tx_tk T n m p).2.2.2.2) : Int)) (b := (0 : Int)) (show (((cm_u1 w 184 18 xo0).1 184 18)).toInt = ((tx_find nm 0 (h 0).toNat (tx_tk T n m p).2.2.2.2) : Int) from eo0) hb_z h27_3
        refine wk_iconst xd_3367775d ?_
        refine wk_goto xd_4f92daba (t := 43) rfl ?_
        refine wk_ireturn xd_599acd73 xr_7b85aa27 wk_z1 ⟨_, _, rfl, hV2_, .inl ⟨(tx_find nm 0 (h 0).toNat (tx_tk T n m p).2.2.2.2), ?_, by decide, by rw [hs_u1_self]; exact eo0, hM3_⟩⟩
        exact (if_pos hni).trans (if_pos (by omega))
      · have h27_3 := aw_ge_f (a := ((tx_find nm 0 (h 0).toNat (tx_tk T n m p).2.2.2.2) : Int)) (b := (0 : Int)) (show (((cm_u1 w 184 18 xo0).1 184 18)).toInt = ((tx_find nm 0 (h 0).toNat (tx_tk T n m p).2.2.2.2) : Int) from eo0) hb_z h27_3
        refine wk_aload_n xd_9c4673ef rfl ?_
        refine wk_iconst xd_e7cc66fd ?_
        obtain ⟨wr5_, hCr5_, hVr5_, hBr5_⟩ := cr_bad (k := (Int32.ofInt 3)) (c := 3) hM3_ (by decide)
        have hVr5_a := cr_V_tr hV2_ hVr5_
        refine wk_call (kd := 0) (i := 176) xd_c90528da rfl (wk_cal (as := [.inr (.inr (some 184)), .inl (Int32.ofInt 3)]) (t := []) xl_e8fed12d rfl xn_f63023b8 xc_1907b494 rfl rfl xv_a1095a1b rfl) (cm_C_mono (by omega) hCr5_) ?_
        refine wk_if xd_c2b3b495 (t := 42) rfl (fun _ => ?_) (fun h => absurd (aw_eq_f (show ((Int32.ofInt 0)).toInt = 0 from by decide) hb_z h) (by omega))
        refine wk_iconst xd_efad29c3 ?_
        refine wk_ireturn xd_599acd73 xr_7b85aa27 wk_z0 ⟨_, _, rfl, hVr5_a, .inr ⟨3, _, ?_, by decide, hBr5_⟩⟩
        exact (if_pos hni).trans (if_neg (by omega))
    · skip
      refine wk_if xd_8339f93a (t := 13) rfl (fun h => absurd (aw_ne_t hxn hb_z h) (by omega)) (fun _ => ?_)
      refine wk_aload_n xd_b4dda05b rfl ?_
      refine wk_iconst xd_cfd56325 ?_
      obtain ⟨wr8_, hCr8_, hVr8_, hBr8_⟩ := cr_bad (k := (Int32.ofInt 1)) (c := 1) hM (by decide)
      have hVr8_a := cr_V_tr (cr_V_rf w) hVr8_
      refine wk_call (kd := 0) (i := 176) xd_cb228ed6 rfl (wk_cal (as := [.inr (.inr (some 184)), .inl (Int32.ofInt 1)]) (t := []) xl_e8fed12d rfl xn_f63023b8 xc_1907b494 rfl rfl xv_a1095a1b rfl) (cm_C_mono (by omega) hCr8_) ?_
      refine wk_ireturn xd_8dc9b92d xr_7b85aa27 wk_z0 ⟨_, _, rfl, hVr8_a, .inr ⟨1, _, ?_, by decide, hBr8_⟩⟩
      exact if_neg hni
  obtain ⟨o, hC, x, w', rfl, a⟩ := h
  exact ⟨x, w', hC, a⟩
theorem cr_nextg {w : cm_W} {T : Nat → Int} {n m p : Nat} {f : Nat → Int} {g : Nat → Int64} {a0 b0 : Int} (hM : cr_M w T n m p f g a0 b0) (ht : 1 ≤ (tx_tk T n m p).1 ∧ (tx_tk T n m p).1 ≤ 3) : ∃ w', cm_C 2 129 [.inr (.inr (some 184))] w (none, w') ∧ rm_S w w' ∧ cr_M w' T n m (tx_tk T n m p).2.2.1 f g a0 b0 := by
  have hb := tx_tk_b (m := m) (T := T) hM.1.2.2 ht
  obtain ⟨w', hC, hS, hR⟩ := mn_ok (w := w) (p := (tx_tk T n m p).2.2.1) hM.1.1 (rm_C_at hM.1.2.1 ht) hb.2.1
  exact ⟨w', hC, hS, cr_M_E hM (rm_E_S hS) (hS 184 15 (by omega)).1 ⟨rm_T_S hM.1.1 hS, hR, hb.2.1⟩⟩
theorem cr_take {w : cm_W} {T : Nat → Int} {n m p : Nat} {f : Nat → Int} {g : Nat → Int64} {a0 b0 : Int} {h : Nat → Int} {nm : Nat → Nat} {a b : Int32} (hM : cr_M w T n m p f g a0 b0) (hQ : ps_Q tx_F f g h nm) (ha : a.toInt = 16) (hb : b.toInt = ((h 0).toNat : Int)) : ∃ x w', cm_C 5 286 [.inr (.inr (some 184)), .inl a, .inl b] w (some (.inl x), w') ∧ cr_V w w' ∧ ((∃ i, ps_look T n m nm 0 (h 0).toNat p = .inr i ∧ x.toInt = 1 ∧ (w'.1 184 18).toInt = i ∧ cr_M w' T n m (tx_tk T n m p).2.2.1 f g a0 b0) ∨ (∃ k q, ps_look T n m nm 0 (h 0).toNat p = .inl (k, q) ∧ x.toInt = 0 ∧ cr_B w' k q)) := by
  have h : ∃ o, cm_C (4 + 1) 286 [.inr (.inr (some 184)), .inl a, .inl b] w o ∧ (fun o : cm_O => ∃ x w', o = (some (.inl x), w') ∧ cr_V w w' ∧ ((∃ i, ps_look T n m nm 0 (h 0).toNat p = .inr i ∧ x.toInt = 1 ∧ (w'.1 184 18).toInt = i ∧ cr_M w' T n m (tx_tk T n m p).2.2.1 f g a0 b0) ∨ (∃ k q, ps_look T n m nm 0 (h 0).toNat p = .inl (k, q) ∧ x.toInt = 0 ∧ cr_B w' k q))) o := by
    refine wk_entry (by rw [xm_803f4e93]; exact Nat.le_of_ble_eq_true rfl) ?_
    rw [show cm_ent 286 [.inr (.inr (some 184)), .inl a, .inl b] = [some (.inr (.inr (some 184))), some (.inl a), some (.inl b)] from by unfold cm_ent; rw [xm_803f4e93]; rfl]
    refine wk_aload_n xd_c779e396 rfl ?_
    refine wk_iload_n xd_3b69f39f rfl ?_
    refine wk_iload_n xd_0a2cb072 rfl ?_
    obtain ⟨xl, wl, hCl, hVl, hl⟩ := cr_look hM hQ ha hb
    refine wk_call (kd := 0) (i := 201) xd_bf17811b rfl (wk_cal (as := [.inr (.inr (some 184)), .inl a, .inl b]) (t := []) xl_910ba3f1 rfl xn_77145da2 xc_6d225164 rfl rfl xv_5b2ff62c rfl) (cm_C_mono (by omega) hCl) ?_
    rcases hl with ⟨i, el, hxl, hgl, hMl⟩ | ⟨k, q, el, hxl, hBl⟩
    · have hi := ps_look_b el
      refine wk_if xd_18d85a25 (t := 11) rfl (fun _ => ?_) (fun h => absurd (aw_ne_f hxl hb_z h) (by omega))
      refine wk_aload_n xd_0ab0780d rfl ?_
      obtain ⟨wn, hCn, hSn, hMn⟩ := cr_nextg hMl hi.2.2
      refine wk_call (kd := 0) (i := 179) xd_1bcd0988 rfl (wk_cal (as := [.inr (.inr (some 184))]) (t := []) xl_dc458e32 rfl xn_00af7311 xc_b2cf5bb1 rfl rfl xv_e7aa8f3d rfl) (cm_C_mono (by omega) hCn) ?_
      refine wk_iconst xd_2926ae17 ?_
      exact wk_ireturn xd_82bccd51 xr_59c69e88 wk_z1 ⟨_, _, rfl, (cr_V_tr hVl (cr_V_E (rm_E_S hSn))), .inl ⟨_, el, by decide, by rw [(hSn 184 18 (by omega)).1]; exact hgl, hMn⟩⟩
    · skip
      refine wk_if xd_18d85a25 (t := 11) rfl (fun h => absurd (aw_ne_t hxl hb_z h) (by omega)) (fun _ => ?_)
      refine wk_iconst xd_f8115e92 ?_
      exact wk_ireturn xd_7481c897 xr_59c69e88 wk_z0 ⟨_, _, rfl, hVl, .inr ⟨_, _, el, by decide, hBl⟩⟩
  obtain ⟨o, hC, x, w', rfl, a⟩ := h
  exact ⟨x, w', hC, a⟩
theorem cr_bit {w : cm_W} {s i : Int32} : ∃ x, cm_C 1 245 [.inl s, .inl i] w (some (.inl x), w) ∧ ((x.toInt = 1 ∧ (ps_bt s i).toInt = 1) ∨ (x.toInt = 0 ∧ (ps_bt s i).toInt ≠ 1)) := by
  have h : ∃ o, cm_C (0 + 1) 245 [.inl s, .inl i] w o ∧ (fun o : cm_O => ∃ x, o = (some (.inl x), w) ∧ ((x.toInt = 1 ∧ (ps_bt s i).toInt = 1) ∨ (x.toInt = 0 ∧ (ps_bt s i).toInt ≠ 1))) o := by
    refine wk_entry (by rw [xm_c75ac4ae]; exact Nat.le_of_ble_eq_true rfl) ?_
    rw [show cm_ent 245 [.inl s, .inl i] = [some (.inl s), some (.inl i)] from by unfold cm_ent; rw [xm_c75ac4ae]; rfl]
    refine wk_iload_n xd_ccee60cc rfl ?_
    refine wk_iload_n xd_6afda3a8 rfl ?_
    refine wk_ishr xd_99b4e8e8 ?_
    refine wk_iconst xd_18329593 ?_
    refine wk_iand xd_5e7058b5 ?_
    refine wk_iconst xd_6ac3cf13 ?_
    refine wk_icmp xd_a3715933 (t := 13) rfl (fun h6_0 => ?_) (fun h6_0 => ?_)
    · have h6_0 := aw_ne_t (a := (((s >>> (i &&& 31)) &&& (Int32.ofInt 1)).toInt : Int)) (b := (1 : Int)) rfl (show ((Int32.ofInt 1)).toInt = 1 from by decide) h6_0
      have hq : (ps_bt s i).toInt ≠ 1 := h6_0
      refine wk_iconst xd_37238d10 ?_
      exact wk_ireturn xd_2c28c11d xr_16a5bc06 wk_z0 ⟨_, rfl, .inr ⟨by decide, hq⟩⟩
    · have h6_0 := aw_ne_f (a := (((s >>> (i &&& 31)) &&& (Int32.ofInt 1)).toInt : Int)) (b := (1 : Int)) rfl (show ((Int32.ofInt 1)).toInt = 1 from by decide) h6_0
      have hq : (ps_bt s i).toInt = 1 := h6_0
      refine wk_iconst xd_8f217a13 ?_
      refine wk_goto xd_e722e547 (t := 14) rfl ?_
      exact wk_ireturn xd_2c28c11d xr_16a5bc06 wk_z1 ⟨_, rfl, .inl ⟨by decide, hq⟩⟩
  obtain ⟨o, hC, x, rfl, a⟩ := h
  exact ⟨x, hC, a⟩

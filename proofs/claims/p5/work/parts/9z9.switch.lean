/-! ## the law's switch, its loop, its start and its end (wip/p2/gen9z9.py) -/
theorem d_law_0 : decode code 0 = .ok (.new 8, 3) := by decide +kernel
theorem d_law_3 : decode code 3 = .ok (.dup, 1) := by decide +kernel
theorem d_law_4 : decode code 4 = .ok (.invokespecial 18, 3) := by decide +kernel
theorem d_law_7 : decode code 7 = .ok (.astore_n 1, 1) := by decide +kernel
theorem d_law_8 : decode code 8 = .ok (.new 19, 3) := by decide +kernel
theorem d_law_11 : decode code 11 = .ok (.dup, 1) := by decide +kernel
theorem d_law_12 : decode code 12 = .ok (.invokespecial 21, 3) := by decide +kernel
theorem d_law_15 : decode code 15 = .ok (.astore_n 2, 1) := by decide +kernel
theorem d_law_16 : decode code 16 = .ok (.iconst 1, 1) := by decide +kernel
theorem d_law_17 : decode code 17 = .ok (.newarray .long, 2) := by decide +kernel
theorem d_law_19 : decode code 19 = .ok (.astore_n 3, 1) := by decide +kernel
theorem d_law_20 : decode code 20 = .ok (.iconst 0, 1) := by decide +kernel
theorem d_law_21 : decode code 21 = .ok (.istore 4, 2) := by decide +kernel
theorem d_law_23 : decode code 23 = .ok (.iload 4, 2) := by decide +kernel
theorem d_law_25 : decode code 25 = .ok (.aload_n 0, 1) := by decide +kernel
theorem d_law_26 : decode code 26 = .ok (.arraylength, 1) := by decide +kernel
theorem d_law_27 : decode code 27 = .ok (.bipush 6, 2) := by decide +kernel
theorem d_law_29 : decode code 29 = .ok (.isub, 1) := by decide +kernel
theorem d_law_30 : decode code 30 = .ok (.if_icmp .gt 1241, 3) := by decide +kernel
theorem d_law_33 : decode code 33 = .ok (.aload_n 0, 1) := by decide +kernel
theorem d_law_34 : decode code 34 = .ok (.iload 4, 2) := by decide +kernel
theorem d_law_36 : decode code 36 = .ok (.iaload, 1) := by decide +kernel
theorem d_law_37 : decode code 37 = .ok (.bipush 63, 2) := by decide +kernel
theorem d_law_39 : decode code 39 = .ok (.iand, 1) := by decide +kernel
theorem d_law_40 : decode code 40 = .ok (.tableswitch 1225 0 38 #[172, 245, 270, 283, 296, 336, 373, 410, 450, 475, 512, 537, 562, 587, 612, 625, 650, 663, 688, 713, 726, 739, 752, 765, 802, 827, 864, 889, 914, 951, 976, 1013, 1062, 1087, 1112, 1125, 1150, 1175, 1200], 172) := by decide +kernel
theorem d_law_1265 : decode code 1265 = .ok (.iinc 4 6, 3) := by decide +kernel
theorem d_law_1268 : decode code 1268 = .ok (.goto (-1245), 3) := by decide +kernel
theorem d_law_1271 : decode code 1271 = .ok (.iconst 1, 1) := by decide +kernel
theorem d_law_1272 : decode code 1272 = .ok (.ireturn, 1) := by decide +kernel
set_option maxRecDepth 100000 in
theorem lq_feed : lx_cb 212 5 22 26 983 1265 = true := by decide +kernel
set_option maxRecDepth 100000 in
theorem ly_feed : lx_yb 22 26 691 1452 13 105 5 = true := by decide +kernel
set_option maxRecDepth 100000 in
theorem lq_end : lx_cb 285 1 27 31 958 1265 = true := by decide +kernel
set_option maxRecDepth 100000 in
theorem ly_end : lx_yb 27 31 699 1461 10 102 1 = true := by decide +kernel
set_option maxRecDepth 100000 in
theorem lq_valley : lx_cb 310 0 32 36 945 1265 = true := by decide +kernel
set_option maxRecDepth 100000 in
theorem ly_valley : lx_yb 32 36 703 1638 47 150 0 = true := by decide +kernel
set_option maxRecDepth 100000 in
theorem lq_fault : lx_cbE 323 0 37 40 934 1265 = true := by decide +kernel
set_option maxRecDepth 100000 in
theorem ly_fault : lx_yb 37 40 841 1726 11 103 0 = true := by decide +kernel
set_option maxRecDepth 100000 in
theorem lq_person : ex_cob 336 41 46 1265 892 = true := by decide +kernel
set_option maxRecDepth 100000 in
theorem ly_person : ia_okI 18 (46, 1, 161, 0, 0, 1730) = true ∧ 3 = ia_na 161 ∧ ia_cls 161 = 12 ∧ ia_mc 161 = 0 ∧ ia_ms 161 = 0 := by decide +kernel
set_option maxRecDepth 100000 in
theorem lq_food : lx_cb 376 2 47 50 855 1265 = true := by decide +kernel
set_option maxRecDepth 100000 in
theorem ly_food : lx_yb 47 50 845 1758 14 106 2 = true := by decide +kernel
set_option maxRecDepth 100000 in
theorem lq_meeting : lx_cb 413 2 51 54 818 1265 = true := by decide +kernel
set_option maxRecDepth 100000 in
theorem ly_meeting : lx_yb 51 54 853 1766 28 127 2 = true := by decide +kernel
set_option maxRecDepth 100000 in
theorem lq_debt : ex_cob 450 55 57 1265 778 = true := by decide +kernel
set_option maxRecDepth 100000 in
theorem ly_debt : ia_okI 18 (57, 1, 162, 0, 0, 1782) = true ∧ 3 = ia_na 162 ∧ ia_cls 162 = 12 ∧ ia_mc 162 = 0 ∧ ia_ms 162 = 0 := by decide +kernel
set_option maxRecDepth 100000 in
theorem lq_now : lx_cb 490 1 58 62 753 1265 = true := by decide +kernel
set_option maxRecDepth 100000 in
theorem ly_now : lx_yb 58 62 878 1794 30 130 1 = true := by decide +kernel
set_option maxRecDepth 100000 in
theorem lq_eat : lx_cb 515 2 63 66 716 1265 = true := by decide +kernel
set_option maxRecDepth 100000 in
theorem ly_eat : lx_yb 63 66 901 1810 9 101 2 = true := by decide +kernel
set_option maxRecDepth 100000 in
theorem lq_ail : lx_cb 552 1 67 70 691 1265 = true := by decide +kernel
set_option maxRecDepth 100000 in
theorem ly_ail : lx_yb 67 70 934 1829 1 90 1 = true := by decide +kernel
set_option maxRecDepth 100000 in
theorem lq_mend : lx_cb 577 1 71 74 666 1265 = true := by decide +kernel
set_option maxRecDepth 100000 in
theorem ly_mend : lx_yb 71 74 946 1833 29 128 1 = true := by decide +kernel
set_option maxRecDepth 100000 in
theorem lq_meet : lx_cb 602 1 75 78 641 1265 = true := by decide +kernel
set_option maxRecDepth 100000 in
theorem ly_meet : lx_yb 75 78 954 1837 27 126 1 = true := by decide +kernel
set_option maxRecDepth 100000 in
theorem lq_hours : lx_cb 627 1 79 82 616 1265 = true := by decide +kernel
set_option maxRecDepth 100000 in
theorem ly_hours : lx_yb 79 82 962 1841 15 111 1 = true := by decide +kernel
set_option maxRecDepth 100000 in
theorem lq_undo : lx_cb 652 0 83 86 603 1265 = true := by decide +kernel
set_option maxRecDepth 100000 in
theorem ly_undo : lx_yb 83 86 989 1856 46 149 0 = true := by decide +kernel
set_option maxRecDepth 100000 in
theorem lq_on : lx_cb 665 1 87 90 578 1265 = true := by decide +kernel
set_option maxRecDepth 100000 in
theorem ly_on : lx_yb 87 90 997 1860 32 132 1 = true := by decide +kernel
set_option maxRecDepth 100000 in
theorem lq_common : lx_cb 690 0 91 94 565 1265 = true := by decide +kernel
set_option maxRecDepth 100000 in
theorem ly_common : lx_yb 91 94 1008 1868 6 98 0 = true := by decide +kernel
set_option maxRecDepth 100000 in
theorem lq_table : lx_cb 703 1 95 98 540 1265 = true := by decide +kernel
set_option maxRecDepth 100000 in
theorem ly_table : lx_yb 95 98 1019 1875 43 144 1 = true := by decide +kernel
set_option maxRecDepth 100000 in
theorem lq_plate : lx_cb 728 1 99 102 515 1265 = true := by decide +kernel
set_option maxRecDepth 100000 in
theorem ly_plate : lx_yb 99 102 1085 1911 35 137 1 = true := by decide +kernel
set_option maxRecDepth 100000 in
theorem lq_feast : lx_cb 753 0 103 106 502 1265 = true := by decide +kernel
set_option maxRecDepth 100000 in
theorem ly_feast : lx_yb 103 106 1093 1915 12 104 0 = true := by decide +kernel
set_option maxRecDepth 100000 in
theorem lq_ate : lx_cb 766 0 107 110 489 1265 = true := by decide +kernel
set_option maxRecDepth 100000 in
theorem ly_ate : lx_yb 107 110 1097 1919 3 92 0 = true := by decide +kernel
set_option maxRecDepth 100000 in
theorem lq_surely : lx_cb 779 0 111 114 476 1265 = true := by decide +kernel
set_option maxRecDepth 100000 in
theorem ly_surely : lx_yb 111 114 1117 1931 42 143 0 = true := by decide +kernel
set_option maxRecDepth 100000 in
theorem lq_ask : lx_cb 792 0 115 118 463 1265 = true := by decide +kernel
set_option maxRecDepth 100000 in
theorem ly_ask : lx_yb 115 118 1121 1935 2 91 0 = true := by decide +kernel
set_option maxRecDepth 100000 in
theorem lq_twins : lx_cb 805 2 119 122 426 1265 = true := by decide +kernel
set_option maxRecDepth 100000 in
theorem ly_twins : lx_yb 119 122 1125 1939 45 148 2 = true := by decide +kernel
set_option maxRecDepth 100000 in
theorem lq_late : lx_cb 842 1 123 126 401 1265 = true := by decide +kernel
set_option maxRecDepth 100000 in
theorem ly_late : lx_yb 123 126 1131 1951 25 123 1 = true := by decide +kernel
set_option maxRecDepth 100000 in
theorem lq_share : lx_cb 867 2 127 130 364 1265 = true := by decide +kernel
set_option maxRecDepth 100000 in
theorem ly_share : lx_yb 127 130 1139 1959 40 141 2 = true := by decide +kernel
set_option maxRecDepth 100000 in
theorem lq_clash : lx_cb 904 1 131 134 339 1265 = true := by decide +kernel
set_option maxRecDepth 100000 in
theorem ly_clash : lx_yb 131 134 1151 1967 5 97 1 = true := by decide +kernel
set_option maxRecDepth 100000 in
theorem lq_keeps : lx_cb 929 1 135 138 314 1265 = true := by decide +kernel
set_option maxRecDepth 100000 in
theorem ly_keeps : lx_yb 135 138 1162 1971 24 122 1 = true := by decide +kernel
set_option maxRecDepth 100000 in
theorem lq_later : lx_cb 954 2 139 142 277 1265 = true := by decide +kernel
set_option maxRecDepth 100000 in
theorem ly_later : lx_yb 139 142 1179 1983 26 124 2 = true := by decide +kernel
set_option maxRecDepth 100000 in
theorem lq_paid : lx_cb 991 1 143 146 252 1265 = true := by decide +kernel
set_option maxRecDepth 100000 in
theorem ly_paid : lx_yb 143 146 1183 1987 34 135 1 = true := by decide +kernel
set_option maxRecDepth 100000 in
theorem lq_drawn : lx_cb 1016 2 147 150 215 1265 = true := by decide +kernel
set_option maxRecDepth 100000 in
theorem ly_drawn : lx_yb 147 150 1191 1991 8 100 2 = true := by decide +kernel
set_option maxRecDepth 100000 in
theorem lq_odds : lx_cb 1053 3 151 155 166 1265 = true := by decide +kernel
set_option maxRecDepth 100000 in
theorem ly_odds : lx_yb 151 155 1218 2008 31 131 3 = true := by decide +kernel
set_option maxRecDepth 100000 in
theorem lq_book : lx_cb 1102 1 156 159 141 1265 = true := by decide +kernel
set_option maxRecDepth 100000 in
theorem ly_book : lx_yb 156 159 1222 2012 4 96 1 = true := by decide +kernel
set_option maxRecDepth 100000 in
theorem lq_told : lx_cb 1127 1 160 163 116 1265 = true := by decide +kernel
set_option maxRecDepth 100000 in
theorem ly_told : lx_yb 160 163 1274 2024 44 146 1 = true := by decide +kernel
set_option maxRecDepth 100000 in
theorem lq_sentence : lx_cb 1152 0 164 167 103 1265 = true := by decide +kernel
set_option maxRecDepth 100000 in
theorem ly_sentence : lx_yb 164 167 1278 2028 39 140 0 = true := by decide +kernel
set_option maxRecDepth 100000 in
theorem lq_said : lx_cb 1165 1 168 171 78 1265 = true := by decide +kernel
set_option maxRecDepth 100000 in
theorem ly_said : lx_yb 168 171 1319 2056 38 139 1 = true := by decide +kernel
set_option maxRecDepth 100000 in
theorem lq_image : lx_cb 1190 1 172 175 53 1265 = true := by decide +kernel
set_option maxRecDepth 100000 in
theorem ly_image : lx_yb 172 175 1352 2068 17 112 1 = true := by decide +kernel
set_option maxRecDepth 100000 in
theorem lq_restore : lx_cb 1215 1 176 179 28 1265 = true := by decide +kernel
set_option maxRecDepth 100000 in
theorem ly_restore : lx_yb 176 179 1359 2072 37 138 1 = true := by decide +kernel
set_option maxRecDepth 100000 in
theorem lq_count : lx_cb 1240 1 180 183 3 1265 = true := by decide +kernel
set_option maxRecDepth 100000 in
theorem ly_count : lx_yb 180 183 897 2076 7 99 1 = true := by decide +kernel
def ex_yp : MethodName := ⟨RX11, "person", "(II)I"⟩
def ex_yd : MethodName := ⟨RX11, "debt", "(II)I"⟩
def ex_zp : MethodName := ⟨R_law, "person", "(LHungerDays;II[J)I"⟩
def ex_zd : MethodName := ⟨R_law, "debt", "(LHungerDays;II[J)I"⟩
set_option maxRecDepth 100000 in
theorem ex_Fp : ex_F ex_yp prog_1_method_13_code 153 23 905 159 189 148 45 129 7 #[45, 55, 64, 81, 91, 101, 111, 120] := ⟨rfl, ia_w_tb (p := 1370) (by decide +kernel) (by intro z; cases z) (by decide +kernel), by unfold ex_code ex_site; refine ⟨?_, ?_, ?_, ?_, ⟨?_, ?_, ?_, ?_, ?_⟩, ?_, ?_, ?_, ⟨?_, ?_, ?_, ?_, ?_⟩⟩ <;> decide +kernel, by decide +kernel, by decide +kernel, by decide +kernel, by decide +kernel, by decide +kernel⟩
set_option maxRecDepth 100000 in
theorem ex_F2p : ex_F2 ex_zp method_3_code 7 ex_yp 41 := ⟨rfl, ia_w_tb (p := 1365) (by decide +kernel) (by intro z; cases z) (by decide +kernel), by unfold ex_code2; decide +kernel, ia_w_tb (p := 1367) (by decide +kernel) (by intro z; cases z) (by decide +kernel), ia_w_tb (p := 1368) (by decide +kernel) (by intro z; cases z) (by decide +kernel), ia_w_tb (p := 1369) (by decide +kernel) (by intro z; cases z) (by decide +kernel), by decide +kernel, ia_w_tb (p := 1363) (by decide +kernel) (by intro z; cases z) (by decide +kernel), ia_w_tb (p := 1364) (by decide +kernel) (by intro z; cases z) (by decide +kernel), by decide +kernel⟩
set_option maxRecDepth 100000 in
theorem ex_Kp : ia_okI 18 (7, 1, 164, 0, 0, 1367) = true ∧ ia_na 164 = 3 ∧ ia_mc 164 = 0 ∧ ia_ms 164 = 0 ∧ ia_cls 164 = 11 := by decide +kernel
set_option maxRecDepth 100000 in
theorem ex_Fd : ex_F ex_yd prog_1_method_16_code 215 19 1187 218 238 123 37 104 5 #[37, 47, 57, 67, 77, 87] := ⟨rfl, ia_w_tb (p := 1448) (by decide +kernel) (by intro z; cases z) (by decide +kernel), by unfold ex_code ex_site; refine ⟨?_, ?_, ?_, ?_, ⟨?_, ?_, ?_, ?_, ?_⟩, ?_, ?_, ?_, ⟨?_, ?_, ?_, ?_, ?_⟩⟩ <;> decide +kernel, by decide +kernel, by decide +kernel, by decide +kernel, by decide +kernel, by decide +kernel⟩
set_option maxRecDepth 100000 in
theorem ex_F2d : ex_F2 ex_zd method_4_code 15 ex_yd 55 := ⟨rfl, ia_w_tb (p := 1444) (by decide +kernel) (by intro z; cases z) (by decide +kernel), by unfold ex_code2; decide +kernel, ia_w_tb (p := 1445) (by decide +kernel) (by intro z; cases z) (by decide +kernel), ia_w_tb (p := 1446) (by decide +kernel) (by intro z; cases z) (by decide +kernel), ia_w_tb (p := 1447) (by decide +kernel) (by intro z; cases z) (by decide +kernel), by decide +kernel, ia_w_tb (p := 1442) (by decide +kernel) (by intro z; cases z) (by decide +kernel), ia_w_tb (p := 1443) (by decide +kernel) (by intro z; cases z) (by decide +kernel), by decide +kernel⟩
set_option maxRecDepth 100000 in
theorem ex_Kd : ia_okI 18 (15, 1, 163, 0, 0, 1445) = true ∧ ia_na 163 = 3 ∧ ia_mc 163 = 0 ∧ ia_ms 163 = 0 ∧ ia_cls 163 = 11 := by decide +kernel
section LX5
variable {p : Program} {l : Launch} {e : Env} {s : State} {m : MethodId} {below : List Frame} {meth : Method} {c : Code} {b L : Nat} {xs : Nat → Int32} {D : va_G} {sa : Nat × Nat} {sb : Nat → Nat} {as0 : List Nat} {nc ns ax am ao q r : Nat} {w : cm_W}
theorem ex_Dp (hl : l.stackTraces = false) : ex_D l D sa sb ex_zp method_3_code ax ao := by
  intro w p0 p1 hG
  obtain ⟨k1, k2, k3, k4, k5⟩ := ex_Kp
  rcases ex_cp (w := w) (p := p0) (q := p1) hG with ⟨x, hC⟩ | ⟨bv, hC, ht⟩
  · exact ⟨0, cm_u2 w 204 0 x.toInt64, rfl, fun _ _ h9 => tx_u2_ne (by omega), fun ws tys sz h1 h2 h3 h4 => ex_lawN ex_F2p k1 k2 k3 k4 k5 hC h1 h2 h3 h4⟩
  · exact ⟨1, w, rfl, fun _ _ _ => rfl, fun ws tys sz h1 h2 h3 h4 => ex_lawX hl ex_F2p ex_Fp hC ht h1 h3 h4 (fun B U H h => ⟨h.1.1, h.1.2.1⟩)⟩
theorem ex_Dd (hl : l.stackTraces = false) : ex_D l D sa sb ex_zd method_4_code ax ao := by
  intro w p0 p1 hG
  obtain ⟨k1, k2, k3, k4, k5⟩ := ex_Kd
  rcases ex_cd (w := w) (p := p0) (q := p1) hG with ⟨x, hC⟩ | ⟨bv, hC, ht⟩
  · exact ⟨0, cm_u2 w 204 0 x.toInt64, rfl, fun _ _ h9 => tx_u2_ne (by omega), fun ws tys sz h1 h2 h3 h4 => ex_lawN ex_F2d k1 k2 k3 k4 k5 hC h1 h2 h3 h4⟩
  · exact ⟨1, w, rfl, fun _ _ _ => rfl, fun ws tys sz h1 h2 h3 h4 => ex_lawX hl ex_F2d ex_Fd hC ht h1 h3 h4 (fun B U H h => ⟨h.1.2.2.1, h.1.2.2.2⟩)⟩
theorem jIv_up (h : jIf r w) : jIf (r + 2) w := ⟨⟨jIw_fr (fun _ _ _ => rfl) h.1.1.1 (jIw_fr (fun _ _ _ => rfl) h.1.1.1 h.1.1), h.1.2⟩, h.2⟩
set_option maxRecDepth 100000 in
theorem lx_sw (hl : l.stackTraces = false) (C0 : lw_At p s m meth c b L xs) (N : ia_N sa (fun q : Nat => s.heap.size ≤ q) s s.heap) (M : ex_N sb (fun q : Nat => s.heap.size ≤ q) s s.heap) (hL : q + 6 ≤ L) (hL2 : L ≤ 3072) (hax : as0[0]? = some ax) (ham : as0[184]? = some am) (hao : as0[204]? = some ao) (hr : r ≤ 3000) (hI : jIf r w) (hc : nc + 1 ≤ 601024) (hs : ns + 6 ≤ 7293034)
    (kk : ∀ w2, jIf (r + 2) w2 → lx_W p l e s m below meth c b D sa as0 (lx_lv b ax am ao q) 1265 [] (cm_s w2) 205 (nc + 1) (ns + 6)) {j : Nat} (hj : j < 64) : lx_W p l e s m below meth c b D sa as0 (lx_lv b ax am ao q) 40 [.int (nI j)] (cm_s w) 205 nc ns := by
  obtain ⟨hx, hb, -⟩ := id C0
  have kw : ∀ w2, jIf (r + 2) w2 → lx_W p l e s m below meth c b D sa as0 (lx_lv b ax am ao q) 1265 [] (cm_s w2) 205 nc ns := fun w2 h => lx_wide (Nat.le_add_right _ _) (Nat.le_add_right _ _) (kk w2 h)
  have hc0 : nc ≤ 601024 := by omega
  have hs0 : ns ≤ 7293034 := by omega
  intro H locs ws tys ls hl9 hG
  rcases (show j = 0 ∨ j = 1 ∨ j = 2 ∨ j = 3 ∨ j = 4 ∨ j = 5 ∨ j = 6 ∨ j = 7 ∨ j = 8 ∨ j = 9 ∨ j = 10 ∨ j = 11 ∨ j = 12 ∨ j = 13 ∨ j = 14 ∨ j = 15 ∨ j = 16 ∨ j = 17 ∨ j = 18 ∨ j = 19 ∨ j = 20 ∨ j = 21 ∨ j = 22 ∨ j = 23 ∨ j = 24 ∨ j = 25 ∨ j = 26 ∨ j = 27 ∨ j = 28 ∨ j = 29 ∨ j = 30 ∨ j = 31 ∨ j = 32 ∨ j = 33 ∨ j = 34 ∨ j = 35 ∨ j = 36 ∨ j = 37 ∨ j = 38 ∨ 39 ≤ j from by omega) with rfl | rfl | rfl | rfl | rfl | rfl | rfl | rfl | rfl | rfl | rfl | rfl | rfl | rfl | rfl | rfl | rfl | rfl | rfl | rfl | rfl | rfl | rfl | rfl | rfl | rfl | rfl | rfl | rfl | rfl | rfl | rfl | rfl | rfl | rfl | rfl | rfl | rfl | rfl | hj9
  · refine lv_tableIn (off := 172) (tgt := 212) hx hb d_law_40 (by decide +kernel) (by decide +kernel) (by decide +kernel) (by decide) ?_
    exact lx_two C0 N hL hL2 hax ham (lx_cb_ok lq_feed) (lx_yb_ok ly_feed) iz_feed hr hI hc0 hs0 kw H locs ws tys ls hl9 hG
  · refine lv_tableIn (off := 245) (tgt := 285) hx hb d_law_40 (by decide +kernel) (by decide +kernel) (by decide +kernel) (by decide) ?_
    exact lx_two C0 N hL hL2 hax ham (lx_cb_ok lq_end) (lx_yb_ok ly_end) iz_end hr hI hc0 hs0 kw H locs ws tys ls hl9 hG
  · refine lv_tableIn (off := 270) (tgt := 310) hx hb d_law_40 (by decide +kernel) (by decide +kernel) (by decide +kernel) (by decide) ?_
    exact lx_two C0 N hL hL2 hax ham (lx_cb_ok lq_valley) (lx_yb_ok ly_valley) iz_valley hr hI hc0 hs0 kw H locs ws tys ls hl9 hG
  · refine lv_tableIn (off := 283) (tgt := 323) hx hb d_law_40 (by decide +kernel) (by decide +kernel) (by decide +kernel) (by decide) ?_
    exact lx_twoE C0 N hL hL2 hax ham (lx_cbE_ok lq_fault) (lx_yb_ok ly_fault) if_fault hr hI hc0 hs0 kw H locs ws tys ls hl9 hG
  · refine lv_tableIn (off := 296) (tgt := 336) hx hb d_law_40 (by decide +kernel) (by decide +kernel) (by decide +kernel) (by decide) ?_
    exact ex_line C0 N M hL hL2 hax ham hao ex_F2p (ex_Dp hl) im_person2 (ex_cob_ok lq_person) ly_person.1 ly_person.2.1 ly_person.2.2.1 ly_person.2.2.2.1 ly_person.2.2.2.2 hr hI hc hs kk H locs ws tys ls hl9 hG
  · refine lv_tableIn (off := 336) (tgt := 376) hx hb d_law_40 (by decide +kernel) (by decide +kernel) (by decide +kernel) (by decide) ?_
    exact lx_two C0 N hL hL2 hax ham (lx_cb_ok lq_food) (lx_yb_ok ly_food) iz_food hr hI hc0 hs0 kw H locs ws tys ls hl9 hG
  · refine lv_tableIn (off := 373) (tgt := 413) hx hb d_law_40 (by decide +kernel) (by decide +kernel) (by decide +kernel) (by decide) ?_
    exact lx_two C0 N hL hL2 hax ham (lx_cb_ok lq_meeting) (lx_yb_ok ly_meeting) iz_meeting hr hI hc0 hs0 kw H locs ws tys ls hl9 hG
  · refine lv_tableIn (off := 410) (tgt := 450) hx hb d_law_40 (by decide +kernel) (by decide +kernel) (by decide +kernel) (by decide) ?_
    exact ex_line C0 N M hL hL2 hax ham hao ex_F2d (ex_Dd hl) im_debt2 (ex_cob_ok lq_debt) ly_debt.1 ly_debt.2.1 ly_debt.2.2.1 ly_debt.2.2.2.1 ly_debt.2.2.2.2 hr hI hc hs kk H locs ws tys ls hl9 hG
  · refine lv_tableIn (off := 450) (tgt := 490) hx hb d_law_40 (by decide +kernel) (by decide +kernel) (by decide +kernel) (by decide) ?_
    exact lx_two C0 N hL hL2 hax ham (lx_cb_ok lq_now) (lx_yb_ok ly_now) iz_now hr hI hc0 hs0 kw H locs ws tys ls hl9 hG
  · refine lv_tableIn (off := 475) (tgt := 515) hx hb d_law_40 (by decide +kernel) (by decide +kernel) (by decide +kernel) (by decide) ?_
    exact lx_two C0 N hL hL2 hax ham (lx_cb_ok lq_eat) (lx_yb_ok ly_eat) iz_eat hr hI hc0 hs0 kw H locs ws tys ls hl9 hG
  · refine lv_tableIn (off := 512) (tgt := 552) hx hb d_law_40 (by decide +kernel) (by decide +kernel) (by decide +kernel) (by decide) ?_
    exact lx_two C0 N hL hL2 hax ham (lx_cb_ok lq_ail) (lx_yb_ok ly_ail) iz_ail hr hI hc0 hs0 kw H locs ws tys ls hl9 hG
  · refine lv_tableIn (off := 537) (tgt := 577) hx hb d_law_40 (by decide +kernel) (by decide +kernel) (by decide +kernel) (by decide) ?_
    exact lx_two C0 N hL hL2 hax ham (lx_cb_ok lq_mend) (lx_yb_ok ly_mend) iz_mend hr hI hc0 hs0 kw H locs ws tys ls hl9 hG
  · refine lv_tableIn (off := 562) (tgt := 602) hx hb d_law_40 (by decide +kernel) (by decide +kernel) (by decide +kernel) (by decide) ?_
    exact lx_two C0 N hL hL2 hax ham (lx_cb_ok lq_meet) (lx_yb_ok ly_meet) iz_meet hr hI hc0 hs0 kw H locs ws tys ls hl9 hG
  · refine lv_tableIn (off := 587) (tgt := 627) hx hb d_law_40 (by decide +kernel) (by decide +kernel) (by decide +kernel) (by decide) ?_
    exact lx_two C0 N hL hL2 hax ham (lx_cb_ok lq_hours) (lx_yb_ok ly_hours) iz_hours hr hI hc0 hs0 kw H locs ws tys ls hl9 hG
  · refine lv_tableIn (off := 612) (tgt := 652) hx hb d_law_40 (by decide +kernel) (by decide +kernel) (by decide +kernel) (by decide) ?_
    exact lx_two C0 N hL hL2 hax ham (lx_cb_ok lq_undo) (lx_yb_ok ly_undo) iz_undo hr hI hc0 hs0 kw H locs ws tys ls hl9 hG
  · refine lv_tableIn (off := 625) (tgt := 665) hx hb d_law_40 (by decide +kernel) (by decide +kernel) (by decide +kernel) (by decide) ?_
    exact lx_two C0 N hL hL2 hax ham (lx_cb_ok lq_on) (lx_yb_ok ly_on) iz_on hr hI hc0 hs0 kw H locs ws tys ls hl9 hG
  · refine lv_tableIn (off := 650) (tgt := 690) hx hb d_law_40 (by decide +kernel) (by decide +kernel) (by decide +kernel) (by decide) ?_
    exact lx_two C0 N hL hL2 hax ham (lx_cb_ok lq_common) (lx_yb_ok ly_common) iz_common hr hI hc0 hs0 kw H locs ws tys ls hl9 hG
  · refine lv_tableIn (off := 663) (tgt := 703) hx hb d_law_40 (by decide +kernel) (by decide +kernel) (by decide +kernel) (by decide) ?_
    exact lx_two C0 N hL hL2 hax ham (lx_cb_ok lq_table) (lx_yb_ok ly_table) iz_table hr hI hc0 hs0 kw H locs ws tys ls hl9 hG
  · refine lv_tableIn (off := 688) (tgt := 728) hx hb d_law_40 (by decide +kernel) (by decide +kernel) (by decide +kernel) (by decide) ?_
    exact lx_two C0 N hL hL2 hax ham (lx_cb_ok lq_plate) (lx_yb_ok ly_plate) iz_plate hr hI hc0 hs0 kw H locs ws tys ls hl9 hG
  · refine lv_tableIn (off := 713) (tgt := 753) hx hb d_law_40 (by decide +kernel) (by decide +kernel) (by decide +kernel) (by decide) ?_
    exact lx_two C0 N hL hL2 hax ham (lx_cb_ok lq_feast) (lx_yb_ok ly_feast) iz_feast hr hI hc0 hs0 kw H locs ws tys ls hl9 hG
  · refine lv_tableIn (off := 726) (tgt := 766) hx hb d_law_40 (by decide +kernel) (by decide +kernel) (by decide +kernel) (by decide) ?_
    exact lx_two C0 N hL hL2 hax ham (lx_cb_ok lq_ate) (lx_yb_ok ly_ate) iz_ate hr hI hc0 hs0 kw H locs ws tys ls hl9 hG
  · refine lv_tableIn (off := 739) (tgt := 779) hx hb d_law_40 (by decide +kernel) (by decide +kernel) (by decide +kernel) (by decide) ?_
    exact lx_two C0 N hL hL2 hax ham (lx_cb_ok lq_surely) (lx_yb_ok ly_surely) iz_surely hr hI hc0 hs0 kw H locs ws tys ls hl9 hG
  · refine lv_tableIn (off := 752) (tgt := 792) hx hb d_law_40 (by decide +kernel) (by decide +kernel) (by decide +kernel) (by decide) ?_
    exact lx_two C0 N hL hL2 hax ham (lx_cb_ok lq_ask) (lx_yb_ok ly_ask) iz_ask hr hI hc0 hs0 kw H locs ws tys ls hl9 hG
  · refine lv_tableIn (off := 765) (tgt := 805) hx hb d_law_40 (by decide +kernel) (by decide +kernel) (by decide +kernel) (by decide) ?_
    exact lx_two C0 N hL hL2 hax ham (lx_cb_ok lq_twins) (lx_yb_ok ly_twins) iz_twins hr hI hc0 hs0 kw H locs ws tys ls hl9 hG
  · refine lv_tableIn (off := 802) (tgt := 842) hx hb d_law_40 (by decide +kernel) (by decide +kernel) (by decide +kernel) (by decide) ?_
    exact lx_two C0 N hL hL2 hax ham (lx_cb_ok lq_late) (lx_yb_ok ly_late) iz_late hr hI hc0 hs0 kw H locs ws tys ls hl9 hG
  · refine lv_tableIn (off := 827) (tgt := 867) hx hb d_law_40 (by decide +kernel) (by decide +kernel) (by decide +kernel) (by decide) ?_
    exact lx_two C0 N hL hL2 hax ham (lx_cb_ok lq_share) (lx_yb_ok ly_share) iz_share hr hI hc0 hs0 kw H locs ws tys ls hl9 hG
  · refine lv_tableIn (off := 864) (tgt := 904) hx hb d_law_40 (by decide +kernel) (by decide +kernel) (by decide +kernel) (by decide) ?_
    exact lx_two C0 N hL hL2 hax ham (lx_cb_ok lq_clash) (lx_yb_ok ly_clash) iz_clash hr hI hc0 hs0 kw H locs ws tys ls hl9 hG
  · refine lv_tableIn (off := 889) (tgt := 929) hx hb d_law_40 (by decide +kernel) (by decide +kernel) (by decide +kernel) (by decide) ?_
    exact lx_two C0 N hL hL2 hax ham (lx_cb_ok lq_keeps) (lx_yb_ok ly_keeps) iz_keeps hr hI hc0 hs0 kw H locs ws tys ls hl9 hG
  · refine lv_tableIn (off := 914) (tgt := 954) hx hb d_law_40 (by decide +kernel) (by decide +kernel) (by decide +kernel) (by decide) ?_
    exact lx_two C0 N hL hL2 hax ham (lx_cb_ok lq_later) (lx_yb_ok ly_later) iz_later hr hI hc0 hs0 kw H locs ws tys ls hl9 hG
  · refine lv_tableIn (off := 951) (tgt := 991) hx hb d_law_40 (by decide +kernel) (by decide +kernel) (by decide +kernel) (by decide) ?_
    exact lx_two C0 N hL hL2 hax ham (lx_cb_ok lq_paid) (lx_yb_ok ly_paid) iz_paid hr hI hc0 hs0 kw H locs ws tys ls hl9 hG
  · refine lv_tableIn (off := 976) (tgt := 1016) hx hb d_law_40 (by decide +kernel) (by decide +kernel) (by decide +kernel) (by decide) ?_
    exact lx_two C0 N hL hL2 hax ham (lx_cb_ok lq_drawn) (lx_yb_ok ly_drawn) iz_drawn hr hI hc0 hs0 kw H locs ws tys ls hl9 hG
  · refine lv_tableIn (off := 1013) (tgt := 1053) hx hb d_law_40 (by decide +kernel) (by decide +kernel) (by decide +kernel) (by decide) ?_
    exact lx_two C0 N hL hL2 hax ham (lx_cb_ok lq_odds) (lx_yb_ok ly_odds) iz_odds hr hI hc0 hs0 kw H locs ws tys ls hl9 hG
  · refine lv_tableIn (off := 1062) (tgt := 1102) hx hb d_law_40 (by decide +kernel) (by decide +kernel) (by decide +kernel) (by decide) ?_
    exact lx_two C0 N hL hL2 hax ham (lx_cb_ok lq_book) (lx_yb_ok ly_book) iz_book hr hI hc0 hs0 kw H locs ws tys ls hl9 hG
  · refine lv_tableIn (off := 1087) (tgt := 1127) hx hb d_law_40 (by decide +kernel) (by decide +kernel) (by decide +kernel) (by decide) ?_
    exact lx_two C0 N hL hL2 hax ham (lx_cb_ok lq_told) (lx_yb_ok ly_told) iz_told hr hI hc0 hs0 kw H locs ws tys ls hl9 hG
  · refine lv_tableIn (off := 1112) (tgt := 1152) hx hb d_law_40 (by decide +kernel) (by decide +kernel) (by decide +kernel) (by decide) ?_
    exact lx_two C0 N hL hL2 hax ham (lx_cb_ok lq_sentence) (lx_yb_ok ly_sentence) iz_sentence hr hI hc0 hs0 kw H locs ws tys ls hl9 hG
  · refine lv_tableIn (off := 1125) (tgt := 1165) hx hb d_law_40 (by decide +kernel) (by decide +kernel) (by decide +kernel) (by decide) ?_
    exact lx_two C0 N hL hL2 hax ham (lx_cb_ok lq_said) (lx_yb_ok ly_said) iz_said hr hI hc0 hs0 kw H locs ws tys ls hl9 hG
  · refine lv_tableIn (off := 1150) (tgt := 1190) hx hb d_law_40 (by decide +kernel) (by decide +kernel) (by decide +kernel) (by decide) ?_
    exact lx_two C0 N hL hL2 hax ham (lx_cb_ok lq_image) (lx_yb_ok ly_image) iz_image hr hI hc0 hs0 kw H locs ws tys ls hl9 hG
  · refine lv_tableIn (off := 1175) (tgt := 1215) hx hb d_law_40 (by decide +kernel) (by decide +kernel) (by decide +kernel) (by decide) ?_
    exact lx_two C0 N hL hL2 hax ham (lx_cb_ok lq_restore) (lx_yb_ok ly_restore) iz_restore hr hI hc0 hs0 kw H locs ws tys ls hl9 hG
  · refine lv_tableIn (off := 1200) (tgt := 1240) hx hb d_law_40 (by decide +kernel) (by decide +kernel) (by decide +kernel) (by decide) ?_
    exact lx_two C0 N hL hL2 hax ham (lx_cb_ok lq_count) (lx_yb_ok ly_count) iz_count hr hI hc0 hs0 kw H locs ws tys ls hl9 hG
  · refine lv_tableOut (tgt := 1265) hx hb d_law_40 (Or.inr ?_) (by decide) ?_
    · rw [nI_toInt (by omega)]; omega
    · exact kw w (jIv_up hI) H locs ws tys ls hl9 hG
/-- the end: true -/
theorem lx_ret (C0 : lw_At p s m meth c b L xs) {H : Heap} {locs : List Loc} {ls : Array Slot} (hS : va_S (fun q : Nat => s.heap.size ≤ q) s.heap H locs) (hc : nc ≤ 601024) (hs : ns ≤ 7293034) : W p l e room_1 s m #[Value.ref b] below meth c H locs nc ns (lw_Z below #[Value.ref b] s) (F0 m 1271 ls []) := by
  obtain ⟨hx, hb, hr, hml, hown, hts, hX, hbl, hlocks, hgv⟩ := id C0
  refine lv_iconst (v := 1) hx hb d_law_1271 (by decide) ?_
  refine va_forget (fun q hq => hS.2.2 q hq) ?_
  refine W.widen (k := 601024) (n := 7293034) hc hs ?_
  exact lw_ret hx hb hr hlocks d_law_1272
theorem lx_63 : (63 : Int32).toBitVec.toNat = 2 ^ 6 - 1 := by decide
theorem lx_cmp {L q : Nat} (hL : L ≤ 3072) (hq : q ≤ 3100) : (Int32.ofNat L - 6 < Int32.ofNat q) ↔ L < q + 6 := by
  rw [Int32.lt_iff_toInt_lt, aw_sub (hk_to L (by omega)) (show (6 : Int32).toInt = 6 from rfl) (by omega) (by omega), hk_to q (by omega)]
  omega
theorem lx_cl {q : Nat} (hq : q ≤ 3100) : (Int32.ofNat q).toNatClampNeg = q ∧ ¬ Int32.ofNat q < 0 := by
  have e1 := ia_Elen (k := q) (by omega)
  exact ⟨by rw [ia_cl (by omega), e1]; omega, by rw [ia_neg, e1]; omega⟩
theorem lx_six (q : Nat) : Int32.ofNat q + Int32.ofInt 6 = Int32.ofNat (q + 6) := by
  rw [Int32.ofNat_add]
  rfl
theorem lx_loop (hl : l.stackTraces = false) (hL2 : L ≤ 3072) (C0 : lw_At p s m meth c b L xs) (N : ia_N sa (fun q : Nat => s.heap.size ≤ q) s s.heap) (M : ex_N sb (fun q : Nat => s.heap.size ≤ q) s s.heap) (hax : as0[0]? = some ax) (ham : as0[184]? = some am) (hao : as0[204]? = some ao) : ∀ (t q r nc ns : Nat) (w : cm_W), q ≤ 3080 → L < q + 6 * t + 6 → r + 2 * t ≤ 2000 → nc + t ≤ 601024 → ns + 6 * t ≤ 7293034 → jIf r w → lx_W p l e s m below meth c b D sa as0 (lx_lv b ax am ao q) 23 [] (cm_s w) 205 nc ns := by
  obtain ⟨hx, hb, hr, hml, hown, hts, hX, hbl, hlocks, hgv⟩ := id C0
  have hbA : ¬ (fun q : Nat => s.heap.size ≤ q) b := Nat.not_le.mpr hbl
  intro t
  induction t with
  | zero =>
    intro q r nc ns w h1 h2 h3 h4 h5 hI
    intro H locs ws tys ls hl9 hG
    obtain ⟨hK, hP, hD, hS, -⟩ := id hG
    refine lv_iload hx hb d_law_23 (lv_at hl9 0 rfl) ?_
    refine lv_aload_n hx hb d_law_25 rfl (lv_at hl9 4 rfl) ?_
    refine va_slen hx hb hX hbl hbA hS d_law_26 ?_
    refine lv_bipush (v := 6) hx hb d_law_27 (by decide) ?_
    refine lv_isub hx hb d_law_29 ?_
    exact lv_icmp_gt (tgt := 1271) hx hb d_law_30 (by decide) (fun _ => lx_ret C0 hS (by omega) (by omega)) (fun z => absurd ((lx_cmp hL2 (by omega)).mpr (by omega)) z)
  | succ t ih =>
    intro q r nc ns w h1 h2 h3 h4 h5 hI
    intro H locs ws tys ls hl9 hG
    obtain ⟨hK, hP, hD, hS, -⟩ := id hG
    refine lv_iload hx hb d_law_23 (lv_at hl9 0 rfl) ?_
    refine lv_aload_n hx hb d_law_25 rfl (lv_at hl9 4 rfl) ?_
    refine va_slen hx hb hX hbl hbA hS d_law_26 ?_
    refine lv_bipush (v := 6) hx hb d_law_27 (by decide) ?_
    refine lv_isub hx hb d_law_29 ?_
    refine lv_icmp_gt (tgt := 1271) hx hb d_law_30 (by decide) (fun _ => lx_ret C0 hS (by omega) (by omega)) (fun z => ?_)
    have hL : q + 6 ≤ L := by
      rcases Nat.lt_or_ge L (q + 6) with g | g
      · exact absurd ((lx_cmp hL2 (by omega)).mpr g) z
      · exact g
    obtain ⟨i1, i2⟩ := lx_cl (q := q) (by omega)
    refine lv_aload_n hx hb d_law_33 rfl (lv_at hl9 4 rfl) ?_
    refine lv_iload hx hb d_law_34 (lv_at hl9 0 rfl) ?_
    refine va_sld hx hb hX hbl hbA hS (i := Int32.ofNat q) ?_ d_law_36 ?_
    · rintro (z | z)
      · exact i2 z
      · rw [i1] at z; omega
    refine lv_bipush (v := 63) hx hb d_law_37 (by decide) ?_
    refine lv_iand hx hb d_law_39 ?_
    obtain ⟨j, hj, hj2⟩ := pk_andE (xs (Int32.ofNat q).toNatClampNeg) 6 lx_63
    rw [hj2]
    refine lx_sw hl C0 N M hL hL2 hax ham hao (by omega) hI (by omega) (by omega) (fun w2 h2' => ?_) (by simpa using hj) H locs ws tys ls hl9 hG
    intro H locs ws tys ls hl9 hG
    refine lv_iinc (v := Int32.ofNat (q + 6)) (lv' := lx_lv b ax am ao (q + 6)) hx hb d_law_1265 hl9 (k := 0) rfl (lx_six q) (by decide) rfl (fun ls hl9 => ?_)
    refine lv_goto (tgt := 23) hx hb d_law_1268 (by decide) ?_
    exact ih (q + 6) (r + 2) (nc + 1) (ns + 6) w2 (by omega) (by omega) (by omega) (by omega) (by omega) h2' H locs ws tys ls hl9 hG
set_option maxRecDepth 100000 in
theorem ex_M (C0 : lw_At p s m meth c b L xs) : ∃ sb, ex_N sb (fun q : Nat => s.heap.size ≤ q) s s.heap := by
  obtain ⟨hx, hb, hr, hml, hown, hts, hX, hbl, hlocks, hgv⟩ := id C0
  have hs := flat_of_before _ hgv
  have hA : ∀ a : Nat, a < s.heap.size → ¬ (fun q : Nat => s.heap.size ≤ q) a := fun a h => Nat.not_le.mpr h
  obtain ⟨a1, c1, cA1, kA1, e1, -⟩ := Cond.exactly_spec (args := #[Value.ref b]) (first := s) (o := none) (s := s) (idx := []) (t := .string RX11 159) (cls := "java/lang/String") (hs _ (by decide +kernel))
  obtain ⟨a2, c2, cA2, kA2, e2, -⟩ := Cond.exactly_spec (args := #[Value.ref b]) (first := s) (o := none) (s := s) (idx := []) (t := .string RX11 189) (cls := "java/lang/String") (hs _ (by decide +kernel))
  obtain ⟨a3, c3, cA3, kA3, e3, -⟩ := Cond.exactly_spec (args := #[Value.ref b]) (first := s) (o := none) (s := s) (idx := []) (t := .string RX11 218) (cls := "java/lang/String") (hs _ (by decide +kernel))
  obtain ⟨a4, c4, cA4, kA4, e4, -⟩ := Cond.exactly_spec (args := #[Value.ref b]) (first := s) (o := none) (s := s) (idx := []) (t := .string RX11 238) (cls := "java/lang/String") (hs _ (by decide +kernel))
  refine ⟨fun i => match i with | 0 => a1 | 1 => a2 | 2 => a3 | _ => a4, ⟨?_, ?_, ?_, ?_⟩, fun w hw => ex_nw_of (ex_bad w hw).1 (hts _ (ex_bad w hw).2), ?_, ?_, ?_⟩
  · exact vk_R.of (hts _ (ia_w_in (p := 1410) (w := .stringRef RX11 159 "no such person") (by decide +kernel) (by intro z; cases z))) e1
  · exact vk_R.of (hts _ (ia_w_in (p := 1441) (w := .stringRef RX11 189 "nothing such of a person") (by decide +kernel) (by intro z; cases z))) e2
  · exact vk_R.of (hts _ (ia_w_in (p := 1449) (w := .stringRef RX11 218 "no such debt") (by decide +kernel) (by intro z; cases z))) e3
  · exact vk_R.of (hts _ (ia_w_in (p := 1451) (w := .stringRef RX11 238 "nothing such of a debt") (by decide +kernel) (by intro z; cases z))) e4
  · exact ex_nw_of rfl (hts _ (ia_w_in (p := 1373) (w := .castable ex_E ex_E) (by decide +kernel) (by intro z; cases z)))
  · exact vx_Zqof (hts _ (ia_w_in (p := 1398) (w := .laysStatic Bundle.tN "UNASSIGNED_STACK" Bundle.steD) (by decide +kernel) (by intro z; cases z))) (hts _ (ia_w_in (p := 133) (w := .initialized Bundle.tN) (by decide +kernel) (by intro z; cases z))) (hs _ (by decide +kernel)) hA
  · exact vx_Zqof (hts _ (ia_w_in (p := 1400) (w := .laysStatic Bundle.tN "SUPPRESSED_SENTINEL" Bundle.listD) (by decide +kernel) (by intro z; cases z))) (hts _ (ia_w_in (p := 133) (w := .initialized Bundle.tN) (by decide +kernel) (by intro z; cases z))) (hs _ (by decide +kernel)) hA
end LX5

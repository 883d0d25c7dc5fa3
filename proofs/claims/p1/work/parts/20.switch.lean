/-! ## the law's switch, its start (wip/p1/genwalk.py) -/
section LX5
variable {p : Program} {l : Launch} {e : Env} {s : State} {m : MethodId} {below : List Frame} {meth : Method} {c : Code} {b L : Nat} {xs : Nat → Int32} {D : va_G} {sa sb : Nat × Nat} {as0 : List Nat} {nc ns ax am ao : Nat}
theorem d_law_33 : decode code 33 = .ok (.aload_n 0, 1) := by decide +kernel
theorem d_law_34 : decode code 34 = .ok (.iload 4, 2) := by decide +kernel
theorem d_law_36 : decode code 36 = .ok (.iaload, 1) := by decide +kernel
theorem d_law_37 : decode code 37 = .ok (.bipush 63, 2) := by decide +kernel
theorem d_law_39 : decode code 39 = .ok (.iand, 1) := by decide +kernel
theorem d_law_40 : decode code 40 = .ok (.tableswitch 1281 0 38 #[172, 245, 270, 283, 296, 364, 401, 438, 506, 531, 568, 593, 618, 643, 668, 681, 706, 719, 744, 769, 782, 795, 808, 821, 858, 883, 920, 945, 970, 1007, 1032, 1069, 1118, 1143, 1168, 1181, 1206, 1231, 1256], 172) := by decide +kernel
theorem lx_c0 : ∃ c0, ia_get2 ia_S4 0 = some c0 ∧ c0.1 = 11 := by
  have h := ia_ok0c
  split at h
  · rename_i c0 hc0
    exact ⟨c0, hc0, ia_beq h⟩
  · cases h
theorem lx_sw (hl : l.stackTraces = false) (C0 : lw_At p s m meth c b L xs) (N : ia_N sa (fun q : Nat => s.heap.size ≤ q) s s.heap) (M : ex_N sb (fun q : Nat => s.heap.size ≤ q) s s.heap) (hL : L = 6) (hax : as0[0]? = some ax) (ham : as0[184]? = some am) (hc : nc + 1 ≤ 600002) (hs : ns + 6 ≤ 7302232) {j : Nat} (hj : j < 64) : lx_W p l e s m below meth c b D sa as0 (lx_lv b ax am ao) 40 [.int (nI j)] ia_S4 205 nc ns := by
  obtain ⟨hx, hb, hr, hml, hown, hts, hX, hbl, hlocks, hgv⟩ := id C0
  intro H locs ws tys ls hl9 hG
  rcases (show j = 0 ∨ j = 1 ∨ j = 2 ∨ j = 3 ∨ j = 4 ∨ j = 5 ∨ j = 6 ∨ j = 7 ∨ j = 8 ∨ j = 9 ∨ j = 10 ∨ j = 11 ∨ j = 12 ∨ j = 13 ∨ j = 14 ∨ j = 15 ∨ j = 16 ∨ j = 17 ∨ j = 18 ∨ j = 19 ∨ j = 20 ∨ j = 21 ∨ j = 22 ∨ j = 23 ∨ j = 24 ∨ j = 25 ∨ j = 26 ∨ j = 27 ∨ j = 28 ∨ j = 29 ∨ j = 30 ∨ j = 31 ∨ j = 32 ∨ j = 33 ∨ j = 34 ∨ j = 35 ∨ j = 36 ∨ j = 37 ∨ j = 38 ∨ 39 ≤ j from by omega) with rfl | rfl | rfl | rfl | rfl | rfl | rfl | rfl | rfl | rfl | rfl | rfl | rfl | rfl | rfl | rfl | rfl | rfl | rfl | rfl | rfl | rfl | rfl | rfl | rfl | rfl | rfl | rfl | rfl | rfl | rfl | rfl | rfl | rfl | rfl | rfl | rfl | rfl | rfl | hj9
  · refine lv_tableIn (off := 172) (tgt := 212) hx hb d_law_40 (by decide +kernel) (by decide +kernel) (by decide +kernel) (by decide) ?_
    exact lx_two C0 N hL hax ham lx_c0 (lx_cb_ok lq_feed) (ia_pick (sa := sa) (xs := xs) _ 0 [] [] lc_feed lk_feed (fun _ => rfl)) (by omega) (by omega) H locs ws tys ls hl9 hG
  · refine lv_tableIn (off := 245) (tgt := 285) hx hb d_law_40 (by decide +kernel) (by decide +kernel) (by decide +kernel) (by decide) ?_
    exact lx_two C0 N hL hax ham lx_c0 (lx_cb_ok lq_end) (ia_pick (sa := sa) (xs := xs) _ 0 [] [] lc_end lk_end (fun _ => rfl)) (by omega) (by omega) H locs ws tys ls hl9 hG
  · refine lv_tableIn (off := 270) (tgt := 310) hx hb d_law_40 (by decide +kernel) (by decide +kernel) (by decide +kernel) (by decide) ?_
    exact lx_two C0 N hL hax ham lx_c0 (lx_cb_ok lq_valley) (ia_pick (sa := sa) (xs := xs) _ 0 [] [] lc_valley lk_valley (fun _ => rfl)) (by omega) (by omega) H locs ws tys ls hl9 hG
  · refine lv_tableIn (off := 283) (tgt := 323) hx hb d_law_40 (by decide +kernel) (by decide +kernel) (by decide +kernel) (by decide) ?_
    exact lx_two C0 N hL hax ham lx_c0 (lx_cb_ok lq_fault) (ia_pick (sa := sa) (xs := xs) _ 0 [] [] lc_fault lk_fault (fun _ => rfl)) (by omega) (by omega) H locs ws tys ls hl9 hG
  · refine lv_tableIn (off := 296) (tgt := 336) hx hb d_law_40 (by decide +kernel) (by decide +kernel) (by decide +kernel) (by decide) ?_
    rcases ex_split (xs 1) with ⟨h1, h2⟩ | ⟨h1, h2⟩
    · exact ex_line hl C0 N M hL hax ham lx_c0 (tx := "no such person") (sx := sb.1) ex_F2p ex_Fp ex_cop ex_47 ex_160 h1 h2 ex_rp0 (fun _ _ _ h => h.1) hc hs H locs ws tys ls hl9 hG
    · exact ex_line hl C0 N M hL hax ham lx_c0 (tx := "no such person") (sx := sb.1) ex_F2p ex_Fp ex_cop ex_47 ex_160 h1 h2 ex_rp1 (fun _ _ _ h => h.1) hc hs H locs ws tys ls hl9 hG
  · refine lv_tableIn (off := 364) (tgt := 404) hx hb d_law_40 (by decide +kernel) (by decide +kernel) (by decide +kernel) (by decide) ?_
    exact lx_two C0 N hL hax ham lx_c0 (lx_cb_ok lq_food) (ia_pick (sa := sa) (xs := xs) _ 0 [] [] lc_food lk_food (fun _ => rfl)) (by omega) (by omega) H locs ws tys ls hl9 hG
  · refine lv_tableIn (off := 401) (tgt := 441) hx hb d_law_40 (by decide +kernel) (by decide +kernel) (by decide +kernel) (by decide) ?_
    exact lx_two C0 N hL hax ham lx_c0 (lx_cb_ok lq_meeting) (ia_pick (sa := sa) (xs := xs) _ 0 [] [] lc_meeting lk_meeting (fun _ => rfl)) (by omega) (by omega) H locs ws tys ls hl9 hG
  · refine lv_tableIn (off := 438) (tgt := 478) hx hb d_law_40 (by decide +kernel) (by decide +kernel) (by decide +kernel) (by decide) ?_
    rcases ex_split (xs 1) with ⟨h1, h2⟩ | ⟨h1, h2⟩
    · exact ex_line hl C0 N M hL hax ham lx_c0 (tx := "no such debt") (sx := sb.2) ex_F2d ex_Fd ex_cod ex_47 ex_160 h1 h2 ex_rd0 (fun _ _ _ h => h.2.1) hc hs H locs ws tys ls hl9 hG
    · exact ex_line hl C0 N M hL hax ham lx_c0 (tx := "no such debt") (sx := sb.2) ex_F2d ex_Fd ex_cod ex_47 ex_160 h1 h2 ex_rd1 (fun _ _ _ h => h.2.1) hc hs H locs ws tys ls hl9 hG
  · refine lv_tableIn (off := 506) (tgt := 546) hx hb d_law_40 (by decide +kernel) (by decide +kernel) (by decide +kernel) (by decide) ?_
    exact lx_two C0 N hL hax ham lx_c0 (lx_cb_ok lq_now) (ia_pick (sa := sa) (xs := xs) _ 0 [] [] lc_now lk_now (fun _ => rfl)) (by omega) (by omega) H locs ws tys ls hl9 hG
  · refine lv_tableIn (off := 531) (tgt := 571) hx hb d_law_40 (by decide +kernel) (by decide +kernel) (by decide +kernel) (by decide) ?_
    exact lx_two C0 N hL hax ham lx_c0 (lx_cb_ok lq_eat) (ia_pick (sa := sa) (xs := xs) _ 0 [] [] lc_eat lk_eat (fun _ => rfl)) (by omega) (by omega) H locs ws tys ls hl9 hG
  · refine lv_tableIn (off := 568) (tgt := 608) hx hb d_law_40 (by decide +kernel) (by decide +kernel) (by decide +kernel) (by decide) ?_
    exact lx_two C0 N hL hax ham lx_c0 (lx_cb_ok lq_ail) (ia_pick (sa := sa) (xs := xs) _ 0 [] [] lc_ail lk_ail (fun _ => rfl)) (by omega) (by omega) H locs ws tys ls hl9 hG
  · refine lv_tableIn (off := 593) (tgt := 633) hx hb d_law_40 (by decide +kernel) (by decide +kernel) (by decide +kernel) (by decide) ?_
    exact lx_two C0 N hL hax ham lx_c0 (lx_cb_ok lq_mend) (ia_pick (sa := sa) (xs := xs) _ 0 [] [] lc_mend lk_mend (fun _ => rfl)) (by omega) (by omega) H locs ws tys ls hl9 hG
  · refine lv_tableIn (off := 618) (tgt := 658) hx hb d_law_40 (by decide +kernel) (by decide +kernel) (by decide +kernel) (by decide) ?_
    exact lx_two C0 N hL hax ham lx_c0 (lx_cb_ok lq_meet) (ia_pick (sa := sa) (xs := xs) _ 0 [] [] lc_meet lk_meet (fun _ => rfl)) (by omega) (by omega) H locs ws tys ls hl9 hG
  · refine lv_tableIn (off := 643) (tgt := 683) hx hb d_law_40 (by decide +kernel) (by decide +kernel) (by decide +kernel) (by decide) ?_
    exact lx_two C0 N hL hax ham lx_c0 (lx_cb_ok lq_hours) (ia_pick (sa := sa) (xs := xs) _ 0 [] [] lc_hours lk_hours (fun _ => rfl)) (by omega) (by omega) H locs ws tys ls hl9 hG
  · refine lv_tableIn (off := 668) (tgt := 708) hx hb d_law_40 (by decide +kernel) (by decide +kernel) (by decide +kernel) (by decide) ?_
    exact lx_two C0 N hL hax ham lx_c0 (lx_cb_ok lq_undo) (ia_pick (sa := sa) (xs := xs) _ 0 [] [] lc_undo lk_undo (fun _ => rfl)) (by omega) (by omega) H locs ws tys ls hl9 hG
  · refine lv_tableIn (off := 681) (tgt := 721) hx hb d_law_40 (by decide +kernel) (by decide +kernel) (by decide +kernel) (by decide) ?_
    exact lx_two C0 N hL hax ham lx_c0 (lx_cb_ok lq_on) (ia_pick (sa := sa) (xs := xs) _ 0 [] [] lc_on lk_on (fun _ => rfl)) (by omega) (by omega) H locs ws tys ls hl9 hG
  · refine lv_tableIn (off := 706) (tgt := 746) hx hb d_law_40 (by decide +kernel) (by decide +kernel) (by decide +kernel) (by decide) ?_
    exact lx_two C0 N hL hax ham lx_c0 (lx_cb_ok lq_common) (ia_pick (sa := sa) (xs := xs) _ 0 [] [] lc_common lk_common (fun _ => rfl)) (by omega) (by omega) H locs ws tys ls hl9 hG
  · refine lv_tableIn (off := 719) (tgt := 759) hx hb d_law_40 (by decide +kernel) (by decide +kernel) (by decide +kernel) (by decide) ?_
    exact lx_two C0 N hL hax ham lx_c0 (lx_cb_ok lq_table) (ia_pick (sa := sa) (xs := xs) _ 0 [] [] lc_table lk_table (fun _ => rfl)) (by omega) (by omega) H locs ws tys ls hl9 hG
  · refine lv_tableIn (off := 744) (tgt := 784) hx hb d_law_40 (by decide +kernel) (by decide +kernel) (by decide +kernel) (by decide) ?_
    exact lx_two C0 N hL hax ham lx_c0 (lx_cb_ok lq_plate) (ia_pick (sa := sa) (xs := xs) _ 0 [] [] lc_plate lk_plate (fun _ => rfl)) (by omega) (by omega) H locs ws tys ls hl9 hG
  · refine lv_tableIn (off := 769) (tgt := 809) hx hb d_law_40 (by decide +kernel) (by decide +kernel) (by decide +kernel) (by decide) ?_
    exact lx_two C0 N hL hax ham lx_c0 (lx_cb_ok lq_feast) (ia_pick (sa := sa) (xs := xs) _ 0 [] [] lc_feast lk_feast (fun _ => rfl)) (by omega) (by omega) H locs ws tys ls hl9 hG
  · refine lv_tableIn (off := 782) (tgt := 822) hx hb d_law_40 (by decide +kernel) (by decide +kernel) (by decide +kernel) (by decide) ?_
    exact lx_two C0 N hL hax ham lx_c0 (lx_cb_ok lq_ate) (ia_pick (sa := sa) (xs := xs) _ 0 [] [] lc_ate lk_ate (fun _ => rfl)) (by omega) (by omega) H locs ws tys ls hl9 hG
  · refine lv_tableIn (off := 795) (tgt := 835) hx hb d_law_40 (by decide +kernel) (by decide +kernel) (by decide +kernel) (by decide) ?_
    exact lx_two C0 N hL hax ham lx_c0 (lx_cb_ok lq_surely) (ia_pick (sa := sa) (xs := xs) _ 0 [] [] lc_surely lk_surely (fun _ => rfl)) (by omega) (by omega) H locs ws tys ls hl9 hG
  · refine lv_tableIn (off := 808) (tgt := 848) hx hb d_law_40 (by decide +kernel) (by decide +kernel) (by decide +kernel) (by decide) ?_
    exact lx_two C0 N hL hax ham lx_c0 (lx_cb_ok lq_ask) (ia_pick (sa := sa) (xs := xs) _ 0 [] [] lc_ask lk_ask (fun _ => rfl)) (by omega) (by omega) H locs ws tys ls hl9 hG
  · refine lv_tableIn (off := 821) (tgt := 861) hx hb d_law_40 (by decide +kernel) (by decide +kernel) (by decide +kernel) (by decide) ?_
    exact lx_two C0 N hL hax ham lx_c0 (lx_cb_ok lq_twins) (ia_pick (sa := sa) (xs := xs) _ 0 [] [] lc_twins lk_twins (fun _ => rfl)) (by omega) (by omega) H locs ws tys ls hl9 hG
  · refine lv_tableIn (off := 858) (tgt := 898) hx hb d_law_40 (by decide +kernel) (by decide +kernel) (by decide +kernel) (by decide) ?_
    exact lx_two C0 N hL hax ham lx_c0 (lx_cb_ok lq_late) (ia_pick (sa := sa) (xs := xs) _ 0 [] [] lc_late lk_late (fun _ => rfl)) (by omega) (by omega) H locs ws tys ls hl9 hG
  · refine lv_tableIn (off := 883) (tgt := 923) hx hb d_law_40 (by decide +kernel) (by decide +kernel) (by decide +kernel) (by decide) ?_
    exact lx_two C0 N hL hax ham lx_c0 (lx_cb_ok lq_share) (ia_pick (sa := sa) (xs := xs) _ 0 [] [] lc_share lk_share (fun _ => rfl)) (by omega) (by omega) H locs ws tys ls hl9 hG
  · refine lv_tableIn (off := 920) (tgt := 960) hx hb d_law_40 (by decide +kernel) (by decide +kernel) (by decide +kernel) (by decide) ?_
    exact lx_two C0 N hL hax ham lx_c0 (lx_cb_ok lq_clash) (ia_pick (sa := sa) (xs := xs) _ 0 [] [] lc_clash lk_clash (fun _ => rfl)) (by omega) (by omega) H locs ws tys ls hl9 hG
  · refine lv_tableIn (off := 945) (tgt := 985) hx hb d_law_40 (by decide +kernel) (by decide +kernel) (by decide +kernel) (by decide) ?_
    exact lx_two C0 N hL hax ham lx_c0 (lx_cb_ok lq_keeps) (ia_pick (sa := sa) (xs := xs) _ 0 [] [] lc_keeps lk_keeps (fun _ => rfl)) (by omega) (by omega) H locs ws tys ls hl9 hG
  · refine lv_tableIn (off := 970) (tgt := 1010) hx hb d_law_40 (by decide +kernel) (by decide +kernel) (by decide +kernel) (by decide) ?_
    exact lx_two C0 N hL hax ham lx_c0 (lx_cb_ok lq_later) (ia_pick (sa := sa) (xs := xs) _ 0 [] [] lc_later lk_later (fun _ => rfl)) (by omega) (by omega) H locs ws tys ls hl9 hG
  · refine lv_tableIn (off := 1007) (tgt := 1047) hx hb d_law_40 (by decide +kernel) (by decide +kernel) (by decide +kernel) (by decide) ?_
    exact lx_two C0 N hL hax ham lx_c0 (lx_cb_ok lq_paid) (ia_pick (sa := sa) (xs := xs) _ 0 [] [] lc_paid lk_paid (fun _ => rfl)) (by omega) (by omega) H locs ws tys ls hl9 hG
  · refine lv_tableIn (off := 1032) (tgt := 1072) hx hb d_law_40 (by decide +kernel) (by decide +kernel) (by decide +kernel) (by decide) ?_
    exact lx_two C0 N hL hax ham lx_c0 (lx_cb_ok lq_drawn) (ia_pick (sa := sa) (xs := xs) _ 0 [] [] lc_drawn lk_drawn (fun _ => rfl)) (by omega) (by omega) H locs ws tys ls hl9 hG
  · refine lv_tableIn (off := 1069) (tgt := 1109) hx hb d_law_40 (by decide +kernel) (by decide +kernel) (by decide +kernel) (by decide) ?_
    exact lx_two C0 N hL hax ham lx_c0 (lx_cb_ok lq_odds) (ia_pick (sa := sa) (xs := xs) _ 0 [] [] lc_odds lk_odds (fun _ => rfl)) (by omega) (by omega) H locs ws tys ls hl9 hG
  · refine lv_tableIn (off := 1118) (tgt := 1158) hx hb d_law_40 (by decide +kernel) (by decide +kernel) (by decide +kernel) (by decide) ?_
    exact lx_two C0 N hL hax ham lx_c0 (lx_cb_ok lq_book) (ia_pick (sa := sa) (xs := xs) _ 0 [] [] lc_book lk_book (fun _ => rfl)) (by omega) (by omega) H locs ws tys ls hl9 hG
  · refine lv_tableIn (off := 1143) (tgt := 1183) hx hb d_law_40 (by decide +kernel) (by decide +kernel) (by decide +kernel) (by decide) ?_
    exact lx_two C0 N hL hax ham lx_c0 (lx_cb_ok lq_told) (ia_pick (sa := sa) (xs := xs) _ 0 [] [] lc_told lk_told (fun _ => rfl)) (by omega) (by omega) H locs ws tys ls hl9 hG
  · refine lv_tableIn (off := 1168) (tgt := 1208) hx hb d_law_40 (by decide +kernel) (by decide +kernel) (by decide +kernel) (by decide) ?_
    exact lx_two C0 N hL hax ham lx_c0 (lx_cb_ok lq_sentence) (ia_pick (sa := sa) (xs := xs) _ 0 [] [] lc_sentence lk_sentence (fun _ => rfl)) (by omega) (by omega) H locs ws tys ls hl9 hG
  · refine lv_tableIn (off := 1181) (tgt := 1221) hx hb d_law_40 (by decide +kernel) (by decide +kernel) (by decide +kernel) (by decide) ?_
    exact lx_two C0 N hL hax ham lx_c0 (lx_cb_ok lq_said) (ia_pick (sa := sa) (xs := xs) _ 0 [] [] lc_said lk_said (fun _ => rfl)) (by omega) (by omega) H locs ws tys ls hl9 hG
  · refine lv_tableIn (off := 1206) (tgt := 1246) hx hb d_law_40 (by decide +kernel) (by decide +kernel) (by decide +kernel) (by decide) ?_
    exact lx_two C0 N hL hax ham lx_c0 (lx_cb_ok lq_image) (ia_pick (sa := sa) (xs := xs) _ 0 [] [] lc_image lk_image (fun _ => rfl)) (by omega) (by omega) H locs ws tys ls hl9 hG
  · refine lv_tableIn (off := 1231) (tgt := 1271) hx hb d_law_40 (by decide +kernel) (by decide +kernel) (by decide +kernel) (by decide) ?_
    exact lx_two C0 N hL hax ham lx_c0 (lx_cb_ok lq_restore) (ia_pick (sa := sa) (xs := xs) _ 0 [] [] lc_restore lk_restore (fun _ => rfl)) (by omega) (by omega) H locs ws tys ls hl9 hG
  · refine lv_tableIn (off := 1256) (tgt := 1296) hx hb d_law_40 (by decide +kernel) (by decide +kernel) (by decide +kernel) (by decide) ?_
    exact lx_two C0 N hL hax ham lx_c0 (lx_cb_ok lq_count) (ia_pick (sa := sa) (xs := xs) _ 0 [] [] lc_count lk_count (fun _ => rfl)) (by omega) (by omega) H locs ws tys ls hl9 hG
  · refine lv_tableOut (tgt := 1321) hx hb d_law_40 (Or.inr ?_) (by decide) ?_
    · rw [nI_toInt (by omega)]; omega
    · exact lx_end C0 hL (by omega) (by omega) H locs ws tys ls hl9 hG
theorem lx_63 : (63 : Int32).toBitVec.toNat = 2 ^ 6 - 1 := by decide
theorem lx_loop (hl : l.stackTraces = false) (hbd : L ≤ 6) (C0 : lw_At p s m meth c b L xs) (N : ia_N sa (fun q : Nat => s.heap.size ≤ q) s s.heap) (M : ex_N sb (fun q : Nat => s.heap.size ≤ q) s s.heap) (hax : as0[0]? = some ax) (ham : as0[184]? = some am) (hc : nc + 1 ≤ 600002) (hs : ns + 6 ≤ 7302232) : lx_W p l e s m below meth c b D sa as0 (lx_lv b ax am ao) 23 [] ia_S4 205 nc ns := by
  obtain ⟨hx, hb, hr, hml, hown, hts, hX, hbl, hlocks, hgv⟩ := id C0
  intro H locs ws tys ls hl9 hG
  obtain ⟨hK, hP, hD, hS, -⟩ := id hG
  have hbA : ¬ (fun q : Nat => s.heap.size ≤ q) b := Nat.not_le.mpr hbl
  refine lv_iload hx hb d_law_23 (lv_at hl9 0 rfl) ?_
  refine lv_aload_n hx hb d_law_25 rfl (lv_at hl9 4 rfl) ?_
  refine va_slen hx hb hX hbl hbA hS d_law_26 ?_
  refine lv_bipush (v := 6) hx hb d_law_27 (by decide) ?_
  refine lv_isub hx hb d_law_29 ?_
  refine lv_icmp_gt (tgt := 1327) hx hb d_law_30 (by decide) (fun _ => lx_ret C0 hS (by omega) (by omega)) (fun q => ?_)
  have hL : L = 6 := by
    rcases (show L = 0 ∨ L = 1 ∨ L = 2 ∨ L = 3 ∨ L = 4 ∨ L = 5 ∨ L = 6 from by omega) with h | h | h | h | h | h | h
    all_goals first | exact h | (rw [h] at q; exact absurd (by decide) q)
  refine lv_aload_n hx hb d_law_33 rfl (lv_at hl9 4 rfl) ?_
  refine lv_iload hx hb d_law_34 (lv_at hl9 0 rfl) ?_
  refine va_sld hx hb hX hbl hbA hS (i := 0) ?_ d_law_36 ?_
  · rintro (z | z)
    · exact absurd z (by decide)
    · rw [hL] at z; exact absurd z (by decide)
  refine lv_bipush (v := 63) hx hb d_law_37 (by decide) ?_
  refine lv_iand hx hb d_law_39 ?_
  obtain ⟨j, hj, hj2⟩ := pk_andE (xs (0 : Int32).toNatClampNeg) 6 lx_63
  rw [hj2]
  exact lx_sw hl C0 N M hL hax ham hc hs (by simpa using hj) H locs ws tys ls hl9 hG
end LX5

/-! ## the class's sentence whole; the pair (wip/p22/gen_cse.py) -/
theorem cfo_ok {w : cm_W} : cm_C 1 66 [.inr (.inr (some 111))] w (none, (cm_u1 (cm_u1 w 111 0 (Int32.ofInt 0)) 111 1 (Int32.ofInt 0))) := by
  refine wk_exact (d := 0) (by rw [xm_85b2a079]; exact Nat.le_of_ble_eq_true rfl) ?_
  rw [show cm_ent 66 [.inr (.inr (some 111))] = [some (.inr (.inr (some 111)))] from by unfold cm_ent; rw [xm_85b2a079]; rfl]
  refine wk_aload_n xd_b61f699b rfl ?_
  refine wk_iconst xd_965dfcd6 ?_
  refine wk_putI xf_b42e58f2 (fun ci => wk_fitI ci) xd_8232437c ?_
  refine wk_aload_n xd_2d3022dc rfl ?_
  refine wk_iconst xd_f384c296 ?_
  refine wk_putI xf_fccee004 (fun ci => wk_fitI ci) xd_19f47488 ?_
  exact wk_return xd_b1c8ae39 xr_1fe1e780 rfl
theorem cco_ok {w : cm_W} : ∃ w', cm_C 1 65 [.inr (.inr (some 106)), .inr (.inr (some 111))] w (none, w') ∧ w'.1 106 0 = w.1 111 0 ∧ (∀ c i, ¬ (106 ≤ c ∧ c ≤ 109) → w'.1 c i = w.1 c i) := by
  have h9 : ∃ oo, cm_C (0 + 1) 65 [.inr (.inr (some 106)), .inr (.inr (some 111))] w oo ∧ (fun oo : cm_O => ∃ w', oo = (none, w') ∧ w'.1 106 0 = w.1 111 0 ∧ (∀ c i, ¬ (106 ≤ c ∧ c ≤ 109) → w'.1 c i = w.1 c i)) oo := by
    refine wk_entry (by rw [xm_5b1b8b13]; exact Nat.le_of_ble_eq_true rfl) ?_
    rw [show cm_ent 65 [.inr (.inr (some 106)), .inr (.inr (some 111))] = [some (.inr (.inr (some 106))), some (.inr (.inr (some 111)))] from by unfold cm_ent; rw [xm_5b1b8b13]; rfl]
    refine wk_aload_n xd_44488463 rfl ?_
    refine wk_aload_n xd_e25b4707 rfl ?_
    refine wk_getI xf_60b3c0b9 xd_393de862 ?_
    refine wk_putI xf_be76ee51 (fun ci => wk_fitI ci) xd_4ebcb8f3 ?_
    refine wk_aload_n xd_44f1c745 rfl ?_
    refine wk_aload_n xd_e2e20421 rfl ?_
    refine wk_getI xf_2853784f xd_4e384934 ?_
    refine wk_putI xf_f69656a7 (fun ci => wk_fitI ci) xd_c204535e ?_
    refine wk_aload_n xd_8c3dfee7 rfl ?_
    refine wk_getR xf_c511c5bf xd_0beca543 ?_
    refine wk_iconst xd_aa1b2eaf ?_
    refine wk_aload_n xd_9ffae6d1 rfl ?_
    refine wk_getR xf_3bafb2d7 xd_a78d924e ?_
    refine wk_iconst xd_e192d96f ?_
    refine wk_bipush xd_3f961c88 ?_
    refine aw_acp (n := 48) xl_40d6e26e xf_893659ea (by decide) (by decide) (by decide) rfl xd_3fd2a1d5 ?_
    refine wk_aload_n xd_23bfaa46 rfl ?_
    refine wk_getR xf_9ed33484 xd_b5109219 ?_
    refine wk_iconst xd_7ae133bb ?_
    refine wk_aload_n xd_68661b58 rfl ?_
    refine wk_getR xf_9a8b4f5c xd_eb2648ec ?_
    refine wk_iconst xd_47d15cd5 ?_
    refine wk_bipush xd_f912d676 ?_
    refine aw_acp (n := 48) xl_40d6e26e xf_e2461cf4 (by decide) (by decide) (by decide) rfl xd_bd44452b ?_
    refine wk_aload_n xd_641e059f rfl ?_
    refine wk_getR xf_38a0ff7e xd_cb75f77b ?_
    refine wk_iconst xd_dca2b601 ?_
    refine wk_aload_n xd_aee2d1a6 rfl ?_
    refine wk_getR xf_9c1d5b7b xd_725e8b19 ?_
    refine wk_iconst xd_972b41c1 ?_
    refine wk_bipush xd_0e8e2bff ?_
    refine aw_acp (n := 48) xl_40d6e26e xf_68d900d5 (by decide) (by decide) (by decide) rfl xd_8af008ed ?_
    exact wk_return xd_7e26a5b4 xr_916ee063 ⟨_, rfl, by rw [cp1_o (by omega), cp1_o (by omega), cp1_o (by omega), hs_u1_ne (by omega), hs_u1_self], fun c i hc => by rw [cp1_o (by omega), cp1_o (by omega), cp1_o (by omega), hs_u1_ne (by omega), hs_u1_ne (by omega)]⟩
  obtain ⟨oo, hC, w', rfl, a⟩ := h9
  exact ⟨w', hC, a⟩
theorem cra_ok {w : cm_W} {T : Nat → Int} {n : Nat} {h : Nat → Int} {nm : Nat → Nat} (hL : rd_L w T n 200 0) (hg : (w.1 2 11).toInt = 0) (hR : vl_R w 4 h nm) : ∃ x w', cm_C 22 67 [.inr (.inr (some 111)), .inr (.inr (some 2)), .inr (.inr (some 4))] w (some (.inl x), w') ∧ ss_V w w' ∧ ((∃ v, sp_all T n 200 h nm = .inr v ∧ x.toInt = 1 ∧ (w'.1 111 0).toInt = (v : Int) ∧ (w'.1 2 11).toInt = 0) ∨ (∃ k q, sp_all T n 200 h nm = .inl (k, q) ∧ x.toInt = 0 ∧ cs_B w' k q)) := by
  have h9 : ∃ oo, cm_C (21 + 1) 67 [.inr (.inr (some 111)), .inr (.inr (some 2)), .inr (.inr (some 4))] w oo ∧ (fun oo : cm_O => ∃ x w', oo = (some (.inl x), w') ∧ ss_V w w' ∧ ((∃ v, sp_all T n 200 h nm = .inr v ∧ x.toInt = 1 ∧ (w'.1 111 0).toInt = (v : Int) ∧ (w'.1 2 11).toInt = 0) ∨ (∃ k q, sp_all T n 200 h nm = .inl (k, q) ∧ x.toInt = 0 ∧ cs_B w' k q))) oo := by
    refine wk_entry (by rw [xm_56dce8e5]; exact Nat.le_of_ble_eq_true rfl) ?_
    rw [show cm_ent 67 [.inr (.inr (some 111)), .inr (.inr (some 2)), .inr (.inr (some 4))] = [some (.inr (.inr (some 111))), some (.inr (.inr (some 2))), some (.inr (.inr (some 4)))] from by unfold cm_ent; rw [xm_56dce8e5]; rfl]
    refine wk_aload_n xd_5102cf0c rfl ?_
    have hM0 : ss_M (cm_u1 (cm_u1 w 111 0 (Int32.ofInt 0)) 111 1 (Int32.ofInt 0)) T n 200 0 0 0 := ⟨rd_L_fr (fun k i hk => ⟨by rw [hs_u1_ne (by omega), hs_u1_ne (by omega)], rfl⟩) hL, by rw [hs_u1_ne (by omega), hs_u1_ne (by omega)]; exact hg, by rw [hs_u1_ne (by omega), hs_u1_self]; decide, by rw [hs_u1_self]; decide⟩
    have hV0 : ss_V w (cm_u1 (cm_u1 w 111 0 (Int32.ofInt 0)) 111 1 (Int32.ofInt 0)) := ss_V_tr (ss_V_u1 (c := 111) (i := 0) (x := (Int32.ofInt 0)) (by omega) (by omega)) (ss_V_u1 (c := 111) (i := 1) (x := (Int32.ofInt 0)) (by omega) (by omega))
    refine wk_call (kd := 0) (i := 37) xd_d32cf9ce rfl (wk_cal (as := [.inr (.inr (some 111))]) (t := []) xl_918b7a4b rfl xn_e4af93b7 xc_cac14729 rfl rfl xv_20fed55d rfl) (cm_C_mono (by omega) cfo_ok) ?_
    refine wk_aload_n xd_515e6e9f rfl ?_
    refine wk_aload_n xd_f74dadfb rfl ?_
    refine wk_aload_n xd_c608ee16 rfl ?_
    refine wk_iconst xd_7c471fe8 ?_
    obtain ⟨xR, wR, hCR, hVR, hPR⟩ := so_c1 (T := T) (n := n) (m := 200) (h := h) (nm := nm) (cm_u1 (cm_u1 w 111 0 (Int32.ofInt 0)) 111 1 (Int32.ofInt 0)) (Int32.ofInt 1) 0 0 0 (by decide) (ss_V_R hV0 hR) hM0 (by omega) (by omega)
    have hVa := ss_V_tr hV0 hVR
    refine wk_call (kd := 0) (i := 40) xd_781fe86f rfl (wk_cal (as := [.inr (.inr (some 111)), .inr (.inr (some 2)), .inr (.inr (some 4)), .inl (Int32.ofInt 1)]) (t := []) xl_b564e464 rfl xn_2bf5d959 xc_be4385c8 rfl rfl xv_fa3436ae rfl) (cm_C_mono (by omega) hCR) ?_
    rcases ss_P_c hPR with ⟨k9, q9, er, hxR, hBR⟩ | ⟨o9, p9, st9, er, hxR, hoR, hoR2, hMR, hsR⟩
    · skip
      refine wk_if xd_58cc278c (t := 25) rfl (fun _ => ?_) (fun h => absurd (aw_eq_f hxR hb_z h) (by omega))
      refine wk_iconst xd_f4d89200 ?_
      refine wk_ireturn xd_c940745b xr_ca95eb43 wk_z0 ⟨_, _, rfl, hVa, .inr ⟨k9, q9, ?_, by decide, hBR⟩⟩
      have er1 : sp_lp T n 200 (fun o p => sp_one T n 200 h nm 8 o p) 21 0 0 = _ := er
      unfold sp_all
      rw [er1]
    · skip
      refine wk_if xd_58cc278c (t := 25) rfl (fun h => absurd (aw_eq_t hxR hb_z h) (by omega)) (fun _ => ?_)
      refine wk_aload_n xd_bcb31b8c rfl ?_
      obtain ⟨xc, wc, hCc, hc⟩ := cl_ok hMR.1.2.1 hMR.2.1
      refine wk_call (kd := 0) (i := 44) xd_1a27f343 rfl (wk_cal (as := [.inr (.inr (some 2))]) (t := []) xl_ecc002f1 rfl xn_e06b76c8 xc_647a832b rfl rfl xv_dbeffa2c rfl) (cm_C_mono (by omega) hCc) ?_
      rcases hc with ⟨ht0, hxc, rfl⟩ | ⟨ht0, hxc, hBc⟩
      · skip
        refine wk_if xd_964fad45 (t := 25) rfl (fun h => absurd (aw_eq_t hxc hb_z h) (by omega)) (fun _ => ?_)
        refine wk_iconst xd_951928b0 ?_
        refine wk_goto xd_5a29ae8a (t := 26) rfl ?_
        refine wk_ireturn xd_c940745b xr_ca95eb43 wk_z1 ⟨_, _, rfl, hVa, .inl ⟨o9, ?_, by decide, hMR.2.2.1, hMR.2.1⟩⟩
        have er1 : sp_lp T n 200 (fun o p => sp_one T n 200 h nm 8 o p) 21 0 0 = _ := er
        unfold sp_all
        rw [er1]
        exact if_pos ht0
      · skip
        refine wk_if xd_964fad45 (t := 25) rfl (fun _ => ?_) (fun h => absurd (aw_eq_f hxc hb_z h) (by omega))
        refine wk_iconst xd_f4d89200 ?_
        refine wk_ireturn xd_c940745b xr_ca95eb43 wk_z0 ⟨_, _, rfl, ss_V_tr hVa (ss_V_c (cs_V_E (rd_E_B hBc))), .inr ⟨1, _, ?_, by decide, cs_B_B hBc (by omega)⟩⟩
        have er1 : sp_lp T n 200 (fun o p => sp_one T n 200 h nm 8 o p) 21 0 0 = _ := er
        unfold sp_all
        rw [er1]
        exact if_neg ht0
  obtain ⟨oo, hC, x, w', rfl, a⟩ := h9
  exact ⟨x, w', hC, a⟩
theorem cse_ok {w : cm_W} {T : Nat → Int} {n : Nat} {h : Nat → Int} {nm : Nat → Nat} (hT : ∀ j, j < 940 → (w.1 1 j).toInt = T j) (hW : ∀ k, k < 22 → w.2 3 k = Int64.ofNat (tx_rw.getD k 0)) (hn : (w.1 0 1).toInt = (n : Int)) (hn9 : n ≤ 940) (hR : vl_R w 4 h nm) : ∃ x w', cm_C 23 39 [.inr (.inr (some 0))] w (some (.inl x), w') ∧ ((∃ k q, sp_all T n 200 h nm = .inl (k, q) ∧ x = Int32.ofInt (-1) - Int32.ofInt (q : Int) ∧ (w'.1 0 3).toInt = (k : Int)) ∨ (∃ v, sp_all T n 200 h nm = .inr v ∧ x.toInt = (v : Int) ∧ (w'.1 0 3).toInt = 0)) := by
  have h9 : ∃ oo, cm_C (22 + 1) 39 [.inr (.inr (some 0))] w oo ∧ (fun oo : cm_O => ∃ x w', oo = (some (.inl x), w') ∧ ((∃ k q, sp_all T n 200 h nm = .inl (k, q) ∧ x = Int32.ofInt (-1) - Int32.ofInt (q : Int) ∧ (w'.1 0 3).toInt = (k : Int)) ∨ (∃ v, sp_all T n 200 h nm = .inr v ∧ x.toInt = (v : Int) ∧ (w'.1 0 3).toInt = 0))) oo := by
    refine wk_entry (by rw [xm_ce26f7a1]; exact Nat.le_of_ble_eq_true rfl) ?_
    rw [show cm_ent 39 [.inr (.inr (some 0))] = [some (.inr (.inr (some 0))), none] from by unfold cm_ent; rw [xm_ce26f7a1]; rfl]
    refine wk_aload_n xd_34384f05 rfl ?_
    refine wk_sipush xd_9ae0cc05 ?_
    obtain ⟨wA, hCA, hLA, hfA, hzA, hFA⟩ := ot_ok (w := w) (m := 200) (a := ((Int16.ofInt 200).toInt32)) hT hW hn (by decide) hn9 (by omega)
    have hRA : vl_R wA 4 h nm := vl_R_f2 (fun k i _ _ => (hFA k i (by omega) (by omega)).1) (fun k i _ _ => (hFA k i (by omega) (by omega)).2) hR
    refine wk_call (kd := 0) (i := 117) xd_08c0def8 rfl (wk_cal (as := [.inr (.inr (some 0)), .inl ((Int16.ofInt 200).toInt32)]) (t := []) xl_3e47df0e rfl xn_e58bdcce xc_824ae56d rfl rfl xv_a03cc3f8 rfl) (cm_C_mono (by omega) hCA) ?_
    refine wk_aload_n xd_4281d7ab rfl ?_
    refine wk_getR xf_d94d3851 xd_58acb742 ?_
    refine wk_aload_n xd_6345fb5f rfl ?_
    refine wk_getR xf_7815df38 xd_6c9bd59c ?_
    refine wk_aload_n xd_63195acc rfl ?_
    refine wk_getR xf_462eed4f xd_e9222978 ?_
    obtain ⟨xB, wB, hCB, hVB, hB⟩ := cra_ok hLA hfA hRA
    refine wk_call (kd := 0) (i := 374) xd_6f553aa9 rfl (wk_cal (as := [.inr (.inr (some 111)), .inr (.inr (some 2)), .inr (.inr (some 4))]) (t := []) xl_31408c8b rfl xn_37c1db2b xc_e0890a59 rfl rfl xv_160c45ae rfl) (cm_C_mono (by omega) hCB) ?_
    rcases hB with ⟨v, hA, hxB, hoB, hfB⟩ | ⟨k, q, hA, hxB, hBB⟩
    · skip
      refine wk_istore_n xd_0b553703 (by rw [xm_ce26f7a1]; rfl) rfl ?_
      refine wk_aload_n xd_d6cd819e rfl ?_
      refine wk_aload_n xd_a0741930 rfl ?_
      refine wk_getR xf_7815df38 xd_509cc4cc ?_
      refine wk_getI xf_3495a8ff xd_8f02df24 ?_
      refine wk_putI xf_3968b717 (fun ci => wk_fitI ci) xd_4ba66c3a ?_
      refine wk_iload_n xd_463286ca rfl ?_
      refine wk_if xd_235de001 (t := 48) rfl (fun _ => ?_) (fun h => absurd (aw_ne_f hxB hb_z h) (by omega))
      refine wk_aload_n xd_10aca9d5 rfl ?_
      refine wk_getR xf_bfbdf7f5 xd_9891d939 ?_
      refine wk_aload_n xd_7ca65c3d rfl ?_
      refine wk_getR xf_d94d3851 xd_420d0140 ?_
      obtain ⟨wD, hCD, hD1, hD2⟩ := cco_ok (w := (cm_u1 wB 0 3 (wB.1 2 11)))
      refine wk_call (kd := 0) (i := 377) xd_06f786ec rfl (wk_cal (as := [.inr (.inr (some 106)), .inr (.inr (some 111))]) (t := []) xl_33c7b46d rfl xn_3a06b8dd xc_b41990b9 rfl rfl xv_c9773da4 rfl) (cm_C_mono (by omega) hCD) ?_
      refine wk_aload_n xd_0afa2626 rfl ?_
      refine wk_getR xf_bfbdf7f5 xd_045b91ef ?_
      refine wk_getI xf_1b42a55d xd_8ab9e0aa ?_
      exact wk_ireturn xd_1fb82803 xr_fc9e7a4e rfl ⟨_, _, rfl, .inr ⟨v, hA, by rw [hD1, hs_u1_ne (by omega)]; exact hoB, by rw [hD2 0 3 (by omega), hs_u1_self]; exact hfB⟩⟩
    · skip
      refine wk_istore_n xd_0b553703 (by rw [xm_ce26f7a1]; rfl) rfl ?_
      refine wk_aload_n xd_d6cd819e rfl ?_
      refine wk_aload_n xd_a0741930 rfl ?_
      refine wk_getR xf_7815df38 xd_509cc4cc ?_
      refine wk_getI xf_3495a8ff xd_8f02df24 ?_
      refine wk_putI xf_3968b717 (fun ci => wk_fitI ci) xd_4ba66c3a ?_
      refine wk_iload_n xd_463286ca rfl ?_
      refine wk_if xd_235de001 (t := 48) rfl (fun h => absurd (aw_ne_t hxB hb_z h) (by omega)) (fun _ => ?_)
      refine wk_iconst xd_490ffb05 ?_
      refine wk_aload_n xd_bac77476 rfl ?_
      refine wk_getR xf_7815df38 xd_3174c388 ?_
      refine wk_getI xf_9a57ba18 xd_51d5afa6 ?_
      refine wk_isub xd_5a744600 ?_
      exact wk_ireturn xd_ae32621d xr_fc9e7a4e rfl ⟨_, _, rfl, .inl ⟨k, q, hA, by rw [hs_u1_ne (by omega), ps_ofInt hBB.2.1], by rw [hs_u1_self]; exact hBB.1⟩⟩
  obtain ⟨oo, hC, x, w', rfl, a⟩ := h9
  exact ⟨x, w', hC, a⟩
/-- both sentences, exactly -/
theorem ie_sentence2 : ∀ (r : Nat) (w : cm_W), r ≤ 3000 → jIv r w → ∃ x w1 y w2, cm_C 24 39 [.inr (.inr (some 0))] w (some (.inl x), w1) ∧ cm_C 24 140 [.inr (.inr (some 184))] w1 (some (.inl y), w2) ∧ jIv (r + 2) w2 ∧ x = y ∧ (w1.1 0 3).toInt = (w2.1 184 15).toInt := by
  intro r w hr h
  obtain ⟨x, w1, y, w2, hC1, hC2, hI⟩ := il_sentence r w [] hr rfl h
  obtain ⟨h, hT⟩ := h
  obtain ⟨ht, hfl, hRl⟩ := id hT
  obtain ⟨x9, w19, hC19, h1, o1, tx, f1⟩ := ix_sentence (w := w) (show r ≤ 4000 by omega) h
  obtain ⟨e1, rfl⟩ := Prod.mk.inj (cm_det hC1 hC19)
  cases e1
  obtain ⟨T, t1, t2, t3⟩ := jTw_T hRl
  have g0 := hb_in (x := w.1 0 1) (lo := 2147483648) (hi := 2147484588) (by have g := h.1 0 1; rw [hs_g1.2.1] at g; exact g)
  obtain ⟨n, hn⟩ : ∃ n : Nat, (w.1 0 1).toInt = (n : Int) := ⟨(w.1 0 1).toInt.toNat, by omega⟩
  obtain ⟨b1, b2, b3, ⟨hh, nm, b4, b5⟩, b6, b7⟩ := id hRl
  have u1 := u2_q (u2_ok (y := 39) (by decide +kernel) hC1)
  unfold jFl jQ1 at f1
  unfold jF2 jQ2 at u1
  obtain ⟨x8, w18, hC18, p1⟩ := cse_ok (w := w) (T := T) (n := n) t1 b2 hn (by omega) b4
  obtain ⟨e2, rfl⟩ := Prod.mk.inj (cm_det hC1 hC18)
  cases e2
  obtain ⟨y8, w28, hC28, p2⟩ := sen_ok (w := w1) (T := T) (n := n) (h := hh) (nm := nm) (fun j hj => by rw [f1 185 j (by omega)]; exact t2 j hj) t3 (by rw [o1, ← ht]; exact hn) (by omega) (fun k hk => by rw [u1 190 k (by omega)]; exact b3 k hk) (mv_R_f2 (fun i hi => f1 186 i (by omega)) (fun i hi => u1 189 i (by omega)) b5)
  obtain ⟨e3, rfl⟩ := Prod.mk.inj (cm_det hC2 hC28)
  cases e3
  refine ⟨x, w1, y, w2, hC1, hC2, hI, ?_⟩
  rcases p1 with ⟨k, q, a1, a2, a3⟩ | ⟨v, a1, a2, a3⟩
  · rcases p2 with ⟨k', q', c1, c2, c3⟩ | ⟨v', c1, _⟩
    · rw [a1] at c1
      cases c1
      exact ⟨a2.trans c2.symm, a3.trans c3.symm⟩
    · rw [a1] at c1
      cases c1
  · rcases p2 with ⟨k', q', c1, _⟩ | ⟨v', c1, c2, c3⟩
    · rw [a1] at c1
      cases c1
    · rw [a1] at c1
      cases c1
      exact ⟨Int32.toInt_inj.mp (a2.trans c2.symm), a3.trans c3.symm⟩
theorem ie_sentence : jLe 39 140 0 := by
  intro r w as hr hk h
  match as, hk with
  | [], _ =>
    obtain ⟨x, w1, y, w2, a, b, c, d, -⟩ := ie_sentence2 r w hr h
    exact ⟨x, w1, y, w2, a, b, c, d⟩

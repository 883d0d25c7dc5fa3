set_option maxRecDepth 100000 in
theorem xd_ead82add : decode (ia_code 7) 0 = .ok (.iload_n 1, 1) := fdd_d (by decide +kernel)
set_option maxRecDepth 100000 in
theorem xd_31f93ef2 : decode (ia_code 7) 1 = .ok (.tableswitch 84 0 5 #[39, 47, 55, 63, 71, 79], 39) := fdd_d (by decide +kernel)
set_option maxRecDepth 100000 in
theorem xd_60c69de3 : decode (ia_code 7) 40 = .ok (.aload_n 0, 1) := fdd_d (by decide +kernel)
set_option maxRecDepth 100000 in
theorem xd_6e586384 : decode (ia_code 7) 41 = .ok (.getfield 25, 3) := fdd_d (by decide +kernel)
set_option maxRecDepth 100000 in
theorem xf_f8163c2d : wk_gf 7 25 0 4 (4 + 3) = true := by decide +kernel
set_option maxRecDepth 100000 in
theorem xd_31dd9ab3 : decode (ia_code 7) 44 = .ok (.getfield 141, 3) := fdd_d (by decide +kernel)
set_option maxRecDepth 100000 in
theorem xf_238ab40f : wk_gf 7 141 4 3 0 = true := by decide +kernel
set_option maxRecDepth 100000 in
theorem xd_4b796e6b : decode (ia_code 7) 47 = .ok (.ireturn, 1) := fdd_d (by decide +kernel)
set_option maxRecDepth 100000 in
theorem xr_629fe207 : ia_ret 7 = some .int := by decide +kernel
set_option maxRecDepth 100000 in
theorem xd_607fdec5 : decode (ia_code 7) 48 = .ok (.aload_n 0, 1) := fdd_d (by decide +kernel)
set_option maxRecDepth 100000 in
theorem xd_4253f033 : decode (ia_code 7) 49 = .ok (.getfield 25, 3) := fdd_d (by decide +kernel)
set_option maxRecDepth 100000 in
theorem xd_a86fd333 : decode (ia_code 7) 52 = .ok (.getfield 144, 3) := fdd_d (by decide +kernel)
set_option maxRecDepth 100000 in
theorem xf_45f5c11b : wk_gf 7 144 4 4 0 = true := by decide +kernel
set_option maxRecDepth 100000 in
theorem xd_b8950bd6 : decode (ia_code 7) 55 = .ok (.ireturn, 1) := fdd_d (by decide +kernel)
set_option maxRecDepth 100000 in
theorem xd_0c298abe : decode (ia_code 7) 56 = .ok (.aload_n 0, 1) := fdd_d (by decide +kernel)
set_option maxRecDepth 100000 in
theorem xd_e29ea9b5 : decode (ia_code 7) 57 = .ok (.getfield 25, 3) := fdd_d (by decide +kernel)
set_option maxRecDepth 100000 in
theorem xd_4911cf4f : decode (ia_code 7) 60 = .ok (.getfield 147, 3) := fdd_d (by decide +kernel)
set_option maxRecDepth 100000 in
theorem xf_d6568ffe : wk_gf 7 147 4 5 0 = true := by decide +kernel
set_option maxRecDepth 100000 in
theorem xd_77d0a350 : decode (ia_code 7) 63 = .ok (.ireturn, 1) := fdd_d (by decide +kernel)
set_option maxRecDepth 100000 in
theorem xd_b9a1f07f : decode (ia_code 7) 64 = .ok (.aload_n 0, 1) := fdd_d (by decide +kernel)
set_option maxRecDepth 100000 in
theorem xd_80af6210 : decode (ia_code 7) 65 = .ok (.getfield 25, 3) := fdd_d (by decide +kernel)
set_option maxRecDepth 100000 in
theorem xd_6544ed46 : decode (ia_code 7) 68 = .ok (.getfield 150, 3) := fdd_d (by decide +kernel)
set_option maxRecDepth 100000 in
theorem xf_e15745d5 : wk_gf 7 150 4 6 0 = true := by decide +kernel
set_option maxRecDepth 100000 in
theorem xd_843cc6ed : decode (ia_code 7) 71 = .ok (.ireturn, 1) := fdd_d (by decide +kernel)
set_option maxRecDepth 100000 in
theorem xd_d54ee722 : decode (ia_code 7) 72 = .ok (.aload_n 0, 1) := fdd_d (by decide +kernel)
set_option maxRecDepth 100000 in
theorem xd_0c69a821 : decode (ia_code 7) 73 = .ok (.getfield 25, 3) := fdd_d (by decide +kernel)
set_option maxRecDepth 100000 in
theorem xd_ac833d59 : decode (ia_code 7) 76 = .ok (.getfield 262, 3) := fdd_d (by decide +kernel)
set_option maxRecDepth 100000 in
theorem xf_35922fb4 : wk_gf 7 262 4 0 0 = true := by decide +kernel
set_option maxRecDepth 100000 in
theorem xd_a1cecf9b : decode (ia_code 7) 79 = .ok (.ireturn, 1) := fdd_d (by decide +kernel)
set_option maxRecDepth 100000 in
theorem xd_dbcd3f02 : decode (ia_code 7) 80 = .ok (.aload_n 0, 1) := fdd_d (by decide +kernel)
set_option maxRecDepth 100000 in
theorem xd_3186f3e3 : decode (ia_code 7) 81 = .ok (.getfield 105, 3) := fdd_d (by decide +kernel)
set_option maxRecDepth 100000 in
theorem xf_b7a9b535 : wk_gf 7 105 0 1 0 = true := by decide +kernel
set_option maxRecDepth 100000 in
theorem xd_d5855988 : decode (ia_code 7) 84 = .ok (.ireturn, 1) := fdd_d (by decide +kernel)
set_option maxRecDepth 100000 in
theorem xd_18eff41e : decode (ia_code 7) 85 = .ok (.iconst (-1), 1) := fdd_d (by decide +kernel)
set_option maxRecDepth 100000 in
theorem xd_314158f5 : decode (ia_code 7) 86 = .ok (.ireturn, 1) := fdd_d (by decide +kernel)
set_option maxRecDepth 100000 in
theorem xm_88c3ddc1 : ia_maxL 7 = 2 := by decide +kernel
set_option maxRecDepth 100000 in
theorem xd_2ba2af0d : decode (ia_code 99) 0 = .ok (.aload_n 0, 1) := fdd_d (by decide +kernel)
set_option maxRecDepth 100000 in
theorem xd_f9ecc553 : decode (ia_code 99) 1 = .ok (.iconst 0, 1) := fdd_d (by decide +kernel)
set_option maxRecDepth 100000 in
theorem xd_6bb602c2 : decode (ia_code 99) 2 = .ok (.putfield 1, 3) := fdd_d (by decide +kernel)
set_option maxRecDepth 100000 in
theorem xf_566e3cc0 : wk_pf 99 1 184 0 0 = true := by decide +kernel
set_option maxRecDepth 100000 in
theorem xd_d7ee1e97 : decode (ia_code 99) 5 = .ok (.iload_n 1, 1) := fdd_d (by decide +kernel)
set_option maxRecDepth 100000 in
theorem xd_54d57463 : decode (ia_code 99) 6 = .ok (.iconst 5, 1) := fdd_d (by decide +kernel)
set_option maxRecDepth 100000 in
theorem xd_3c11dbdf : decode (ia_code 99) 7 = .ok (.if_icmp .ne 10, 3) := fdd_d (by decide +kernel)
set_option maxRecDepth 100000 in
theorem xd_e728612a : decode (ia_code 99) 17 = .ok (.iload_n 1, 1) := fdd_d (by decide +kernel)
set_option maxRecDepth 100000 in
theorem xd_0a571afc : decode (ia_code 99) 18 = .ok (.iconst 0, 1) := fdd_d (by decide +kernel)
set_option maxRecDepth 100000 in
theorem xd_e8ffd8fc : decode (ia_code 99) 19 = .ok (.iconst 4, 1) := fdd_d (by decide +kernel)
set_option maxRecDepth 100000 in
theorem xl_6d55eb48 : ia_pl (ia_cls 99) 182 = some (1, 115, 1, 0, 1687) := by decide +kernel
set_option maxRecDepth 100000 in
theorem xd_71fdabc5 : decode (ia_code 99) 20 = .ok (.invokestatic 182, 3) := fdd_d (by decide +kernel)
set_option maxRecDepth 100000 in
theorem xd_02a4f126 : decode (ia_code 99) 23 = .ok (.ifCond .eq 12, 3) := fdd_d (by decide +kernel)
set_option maxRecDepth 100000 in
theorem xd_7b856a56 : decode (ia_code 99) 35 = .ok (.iconst (-1), 1) := fdd_d (by decide +kernel)
set_option maxRecDepth 100000 in
theorem xd_1452b910 : decode (ia_code 99) 36 = .ok (.ireturn, 1) := fdd_d (by decide +kernel)
set_option maxRecDepth 100000 in
theorem xr_2ea9a0d5 : ia_ret 99 = some .int := by decide +kernel
set_option maxRecDepth 100000 in
theorem xd_4326d80b : decode (ia_code 99) 26 = .ok (.aload_n 0, 1) := fdd_d (by decide +kernel)
set_option maxRecDepth 100000 in
theorem xd_ba55aa9a : decode (ia_code 99) 27 = .ok (.getfield 33, 3) := fdd_d (by decide +kernel)
set_option maxRecDepth 100000 in
theorem xf_d2cc91be : wk_gf 99 33 184 6 (186 + 3) = true := by decide +kernel
set_option maxRecDepth 100000 in
theorem xd_48aa358b : decode (ia_code 99) 30 = .ok (.iload_n 1, 1) := fdd_d (by decide +kernel)
set_option maxRecDepth 100000 in
theorem xd_5d45d410 : decode (ia_code 99) 31 = .ok (.iaload, 1) := fdd_d (by decide +kernel)
set_option maxRecDepth 100000 in
theorem xd_45982ce5 : decode (ia_code 99) 32 = .ok (.goto 4, 3) := fdd_d (by decide +kernel)
set_option maxRecDepth 100000 in
theorem xd_f6f20359 : decode (ia_code 99) 10 = .ok (.aload_n 0, 1) := fdd_d (by decide +kernel)
set_option maxRecDepth 100000 in
theorem xd_674bab7d : decode (ia_code 99) 11 = .ok (.getfield 7, 3) := fdd_d (by decide +kernel)
set_option maxRecDepth 100000 in
theorem xf_cd24f118 : wk_gf 99 7 184 2 0 = true := by decide +kernel
set_option maxRecDepth 100000 in
theorem xd_75eaa7c8 : decode (ia_code 99) 14 = .ok (.goto 22, 3) := fdd_d (by decide +kernel)
set_option maxRecDepth 100000 in
theorem xm_6fbdd4c7 : ia_maxL 99 = 2 := by decide +kernel
/-! ## the pairs image, restore, feed, count (wip/p4/gen9vz.py) -/
theorem cx_count {w : cm_W} {k : Int32} : ∃ x, cm_C 1 7 [.inr (.inr (some 0)), .inl k] w (some (.inl x), w) ∧ ((k.toInt = 0 ∧ x = w.1 4 3) ∨ (k.toInt = 1 ∧ x = w.1 4 4) ∨ (k.toInt = 2 ∧ x = w.1 4 5) ∨ (k.toInt = 3 ∧ x = w.1 4 6) ∨ (k.toInt = 4 ∧ x = w.1 4 0) ∨ (k.toInt = 5 ∧ x = w.1 0 1) ∨ (¬ (0 ≤ k.toInt ∧ k.toInt ≤ 5) ∧ x = Int32.ofInt (-1))) := by
  have h : ∃ o, cm_C (0 + 1) 7 [.inr (.inr (some 0)), .inl k] w o ∧ (fun o : cm_O => ∃ x, o = (some (.inl x), w) ∧ ((k.toInt = 0 ∧ x = w.1 4 3) ∨ (k.toInt = 1 ∧ x = w.1 4 4) ∨ (k.toInt = 2 ∧ x = w.1 4 5) ∨ (k.toInt = 3 ∧ x = w.1 4 6) ∨ (k.toInt = 4 ∧ x = w.1 4 0) ∨ (k.toInt = 5 ∧ x = w.1 0 1) ∨ (¬ (0 ≤ k.toInt ∧ k.toInt ≤ 5) ∧ x = Int32.ofInt (-1)))) o := by
    refine wk_entry (by rw [xm_88c3ddc1]; exact Nat.le_of_ble_eq_true rfl) ?_
    rw [show cm_ent 7 [.inr (.inr (some 0)), .inl k] = [some (.inr (.inr (some 0))), some (.inl k)] from by unfold cm_ent; rw [xm_88c3ddc1]; rfl]
    refine wk_iload_n xd_ead82add rfl ?_
    rcases (show k.toInt = 0 ∨ k.toInt = 1 ∨ k.toInt = 2 ∨ k.toInt = 3 ∨ k.toInt = 4 ∨ k.toInt = 5 ∨ (k.toInt < 0 ∨ 5 < k.toInt) by omega) with h | h | h | h | h | h | h
    · refine ax_tsw (j := 0) (t := 40) xd_31f93ef2 (by omega) (by omega) (by omega) rfl rfl ?_
      refine wk_aload_n xd_60c69de3 rfl ?_
      refine wk_getR xf_f8163c2d xd_6e586384 ?_
      refine wk_getI xf_238ab40f xd_31dd9ab3 ?_
      exact wk_ireturn xd_4b796e6b xr_629fe207 rfl ⟨_, rfl, .inl ⟨h, rfl⟩⟩
    · refine ax_tsw (j := 1) (t := 48) xd_31f93ef2 (by omega) (by omega) (by omega) rfl rfl ?_
      refine wk_aload_n xd_607fdec5 rfl ?_
      refine wk_getR xf_f8163c2d xd_4253f033 ?_
      refine wk_getI xf_45f5c11b xd_a86fd333 ?_
      exact wk_ireturn xd_b8950bd6 xr_629fe207 rfl ⟨_, rfl, .inr (.inl ⟨h, rfl⟩)⟩
    · refine ax_tsw (j := 2) (t := 56) xd_31f93ef2 (by omega) (by omega) (by omega) rfl rfl ?_
      refine wk_aload_n xd_0c298abe rfl ?_
      refine wk_getR xf_f8163c2d xd_e29ea9b5 ?_
      refine wk_getI xf_d6568ffe xd_4911cf4f ?_
      exact wk_ireturn xd_77d0a350 xr_629fe207 rfl ⟨_, rfl, .inr (.inr (.inl ⟨h, rfl⟩))⟩
    · refine ax_tsw (j := 3) (t := 64) xd_31f93ef2 (by omega) (by omega) (by omega) rfl rfl ?_
      refine wk_aload_n xd_b9a1f07f rfl ?_
      refine wk_getR xf_f8163c2d xd_80af6210 ?_
      refine wk_getI xf_e15745d5 xd_6544ed46 ?_
      exact wk_ireturn xd_843cc6ed xr_629fe207 rfl ⟨_, rfl, .inr (.inr (.inr (.inl ⟨h, rfl⟩)))⟩
    · refine ax_tsw (j := 4) (t := 72) xd_31f93ef2 (by omega) (by omega) (by omega) rfl rfl ?_
      refine wk_aload_n xd_d54ee722 rfl ?_
      refine wk_getR xf_f8163c2d xd_0c69a821 ?_
      refine wk_getI xf_35922fb4 xd_ac833d59 ?_
      exact wk_ireturn xd_a1cecf9b xr_629fe207 rfl ⟨_, rfl, .inr (.inr (.inr (.inr (.inl ⟨h, rfl⟩))))⟩
    · refine ax_tsw (j := 5) (t := 80) xd_31f93ef2 (by omega) (by omega) (by omega) rfl rfl ?_
      refine wk_aload_n xd_dbcd3f02 rfl ?_
      refine wk_getI xf_b7a9b535 xd_3186f3e3 ?_
      exact wk_ireturn xd_d5855988 xr_629fe207 rfl ⟨_, rfl, .inr (.inr (.inr (.inr (.inr (.inl ⟨h, rfl⟩)))))⟩
    · refine ax_tsd (t := 85) xd_31f93ef2 h rfl ?_
      refine wk_iconst xd_18eff41e ?_
      exact wk_ireturn xd_314158f5 xr_629fe207 rfl ⟨_, rfl, .inr (.inr (.inr (.inr (.inr (.inr (⟨by omega, rfl⟩))))))⟩
  obtain ⟨o, hC, x, rfl, a⟩ := h
  exact ⟨x, hC, a⟩
theorem rx_count {w : cm_W} {k : Int32} : ∃ x w', cm_C 2 99 [.inr (.inr (some 184)), .inl k] w (some (.inl x), w') ∧ ((k.toInt = 5 ∧ x = w.1 184 2) ∨ (0 ≤ k.toInt ∧ k.toInt ≤ 4 ∧ x = w.1 186 k.toInt.toNat) ∨ (¬ (0 ≤ k.toInt ∧ k.toInt ≤ 5) ∧ x = Int32.ofInt (-1))) := by
  have h : ∃ o, cm_C (1 + 1) 99 [.inr (.inr (some 184)), .inl k] w o ∧ (fun o : cm_O => ∃ x w', o = (some (.inl x), w') ∧ ((k.toInt = 5 ∧ x = w.1 184 2) ∨ (0 ≤ k.toInt ∧ k.toInt ≤ 4 ∧ x = w.1 186 k.toInt.toNat) ∨ (¬ (0 ≤ k.toInt ∧ k.toInt ≤ 5) ∧ x = Int32.ofInt (-1)))) o := by
    refine wk_entry (by rw [xm_6fbdd4c7]; exact Nat.le_of_ble_eq_true rfl) ?_
    rw [show cm_ent 99 [.inr (.inr (some 184)), .inl k] = [some (.inr (.inr (some 184))), some (.inl k)] from by unfold cm_ent; rw [xm_6fbdd4c7]; rfl]
    refine wk_aload_n xd_2ba2af0d rfl ?_
    refine wk_iconst xd_f9ecc553 ?_
    refine wk_putI xf_566e3cc0 (fun ci => wk_fitI ci) xd_6bb602c2 ?_
    refine wk_iload_n xd_d7ee1e97 rfl ?_
    refine wk_iconst xd_54d57463 ?_
    refine wk_icmp xd_3c11dbdf (t := 17) rfl (fun h7_0 => ?_) (fun h7_0 => ?_)
    · have h7_0 := aw_ne_t (a := ((k).toInt : Int)) (b := (5 : Int)) rfl (show ((Int32.ofInt 5)).toInt = 5 from by decide) h7_0
      refine wk_iload_n xd_e728612a rfl ?_
      refine wk_iconst xd_0a571afc ?_
      refine wk_iconst xd_e8ffd8fc ?_
      obtain ⟨xi, hCi, hxi⟩ := jie_ok (w := (cm_u1 w 184 0 (Int32.ofInt 0))) (v := k) (a := (Int32.ofInt 0)) (b := (Int32.ofInt 4))
      rw [(show ((Int32.ofInt 0)).toInt = 0 from by decide), (show ((Int32.ofInt 4)).toInt = 4 from by decide)] at hxi
      have hxi : (0 ≤ k.toInt ∧ k.toInt ≤ 4 ∧ xi.toInt = 1) ∨ (¬ (0 ≤ k.toInt ∧ k.toInt ≤ 4) ∧ xi.toInt = 0) := by
        rcases hxi with ⟨g1, g2, g3⟩ | ⟨g1, g3⟩
        · exact .inl ⟨g1, g2, by rw [g3]; decide⟩
        · exact .inr ⟨g1, by rw [g3]; decide⟩
      refine wk_call (kd := 1) (i := 182) xd_71fdabc5 rfl (wk_cal (as := [.inl k, .inl (Int32.ofInt 0), .inl (Int32.ofInt 4)]) (t := []) xl_6d55eb48 rfl xn_adc58d92 xc_a9508f83 rfl rfl rfl rfl) (cm_C_mono (by omega) hCi) ?_
      refine wk_if xd_02a4f126 (t := 35) rfl (fun h23_1 => ?_) (fun h23_1 => ?_)
      · have h23_1 := aw_eq_t (a := ((xi).toInt : Int)) (b := (0 : Int)) rfl hb_z h23_1
        refine wk_iconst xd_7b856a56 ?_
        exact wk_ireturn xd_1452b910 xr_2ea9a0d5 rfl ⟨_, _, rfl, .inr (.inr ⟨by omega, rfl⟩)⟩
      · have h23_1 := aw_eq_f (a := ((xi).toInt : Int)) (b := (0 : Int)) rfl hb_z h23_1
        refine wk_aload_n xd_4326d80b rfl ?_
        refine wk_getR xf_d2cc91be xd_ba55aa9a ?_
        refine wk_iload_n xd_48aa358b rfl ?_
        have hk0 : 0 ≤ k.toInt ∧ k.toInt ≤ 4 := by omega
        refine aw_iaload (i := k.toInt.toNat) xf_31d67ad9 (show k.toInt = ((k.toInt.toNat : Nat) : Int) from by omega) rfl (by omega) xd_5d45d410 ?_
        refine wk_goto xd_45982ce5 (t := 36) rfl ?_
        exact wk_ireturn xd_1452b910 xr_2ea9a0d5 rfl ⟨_, _, rfl, .inr (.inl ⟨hk0.1, hk0.2, hs_u1_ne (by omega)⟩)⟩
    · have h7_0 := aw_ne_f (a := ((k).toInt : Int)) (b := (5 : Int)) rfl (show ((Int32.ofInt 5)).toInt = 5 from by decide) h7_0
      refine wk_aload_n xd_f6f20359 rfl ?_
      refine wk_getI xf_cd24f118 xd_674bab7d ?_
      refine wk_goto xd_75eaa7c8 (t := 36) rfl ?_
      exact wk_ireturn xd_1452b910 xr_2ea9a0d5 rfl ⟨_, _, rfl, .inl ⟨by omega, hs_u1_ne (by omega)⟩⟩
  obtain ⟨o, hC, x, w', rfl, a⟩ := h
  exact ⟨x, w', hC, a⟩
theorem ie_count : jLe 7 99 1 := by
  intro r w as hr hk h
  obtain ⟨h, hT⟩ := h
  obtain ⟨ht, hfl, hRl⟩ := id hT
  match as, hk with
  | [a1], _ =>
    obtain ⟨x, w1, hC1, h1, o1, tx, f1⟩ := ix_count (w := w) (a1 := a1) (show r ≤ 4000 by omega) h
    obtain ⟨x', hC1', p1⟩ := cx_count (w := w) (k := a1)
    obtain ⟨e1, rfl⟩ := Prod.mk.inj (cm_det hC1 hC1')
    cases e1
    obtain ⟨y, w2, hC2, h2, o2, ty, f2⟩ := im_count (w := w1) (a1 := a1) (show r + 1 ≤ 4000 by omega) h1
    obtain ⟨y', w2', hC2', p2⟩ := rx_count (w := w1) (k := a1)
    obtain ⟨e2, rfl⟩ := Prod.mk.inj (cm_det hC2 hC2')
    cases e2
    refine ⟨x, w1, y, w2, hC1, hC2, ⟨h2, jTw_fl hT (by rw [o2, tx, ty, o1]; exact ht) f1 f2 (u2_q (u2_ok (y := 7) (by decide +kernel) hC1)) (u2_q (u2_ok (y := 99) (by decide +kernel) hC2))⟩, ?_⟩
    obtain ⟨-, -, -, ⟨hh, nm, b4, b5⟩, -⟩ := id hRl
    have c4 : ∀ j, j < 7 → vl_H w1 4 j = (w1.1 186 j).toInt := fun j hj => (b4.1 j (.inl hj)).trans (b5.1 j (.inl hj)).symm
    have d0 : (w1.1 4 3).toInt = (w1.1 186 0).toInt := c4 0 (by omega)
    have d1 : (w1.1 4 4).toInt = (w1.1 186 1).toInt := c4 1 (by omega)
    have d2 : (w1.1 4 5).toInt = (w1.1 186 2).toInt := c4 2 (by omega)
    have d3 : (w1.1 4 6).toInt = (w1.1 186 3).toInt := c4 3 (by omega)
    have d4 : (w1.1 4 0).toInt = (w1.1 186 4).toInt := c4 4 (by omega)
    apply Int32.toInt_inj.mp
    rcases p1 with ⟨k, e⟩ | ⟨k, e⟩ | ⟨k, e⟩ | ⟨k, e⟩ | ⟨k, e⟩ | ⟨k, e⟩ | ⟨k, e⟩
    all_goals rcases p2 with ⟨k2, e2⟩ | ⟨k2, k3, e2⟩ | ⟨k2, e2⟩
    all_goals first
      | (exfalso; omega)
      | (rw [e, e2, k]; exact d0)
      | (rw [e, e2, k]; exact d1)
      | (rw [e, e2, k]; exact d2)
      | (rw [e, e2, k]; exact d3)
      | (rw [e, e2, k]; exact d4)
      | (rw [e, e2]; exact ht)
      | (rw [e, e2])
theorem il_count : jLn 7 99 1 := jLn_of ie_count
theorem jRl_0 {w : cm_W} {x : Int32} (h : jRl w) : jRl (cm_u1 w 184 0 x) := jRl_fr h (fun k i hq => by unfold jQ1 at hq; exact hs_u1_ne (by omega)) (fun _ _ _ => rfl)
theorem ie_image : jLe 17 112 1 := by
  intro r w as hr hk h
  obtain ⟨h, hT⟩ := h
  obtain ⟨ht, ⟨q0, q1⟩, hRl⟩ := id hT
  match as, hk with
  | [a1], _ =>
    obtain ⟨x, w1, hC1, h1, o1, tx, ex, f1, f2⟩ := ix_image (w := w) (a1 := a1) (show r ≤ 4000 by omega) h
    obtain ⟨y, w2, hC2, h2, o2, ty, ey, f3, f4⟩ := im_image (w := w1) (a1 := a1) (show r + 1 ≤ 4000 by omega) h1
    have htt : (w2.1 0 1).toInt = (w2.1 184 2).toInt := by rw [o2, tx, ty, o1]; exact ht
    obtain ⟨b1, b2, b3, ⟨hh, nm, b4, b5⟩, b6, b7⟩ := id hRl
    rcases ex with ⟨c1, e1, m1, m2⟩ | ⟨c1, e1, m1, m2⟩ | ⟨c1, e1, m1, m2⟩
    · rcases ey with ⟨c2, e2, n1, n2⟩ | ⟨c2, e2, n1, n2⟩ | ⟨c2, e2, n1, n2⟩
      · skip
        obtain ⟨x', w1', hC1', v1, v2, v3, v4⟩ := ci_image0 (w := w) (k := a1) c1 h.1
        obtain ⟨-, rfl⟩ := Prod.mk.inj (cm_det hC1 hC1')
        obtain ⟨y', w2', hC2', u1, u2, u3, u4⟩ := ri_image0 (w := w1) (k := a1) c1
        obtain ⟨-, rfl⟩ := Prod.mk.inj (cm_det hC2 hC2')
        have g1 : ∀ c i, ¬ (130 ≤ c ∧ c ≤ 156) → ¬ (c = 184 ∧ i = 0) → ¬ (c = 201 ∧ 0 ≤ i ∧ i < 301) → ¬ (c = 203 ∧ i = 0) → w2.1 c i = w.1 c i := fun c i z1 z2 z3 z4 => (u3 c i z2 z3 z4).trans (v4 c i z1).1
        have g2 : ∀ c i, ¬ (130 ≤ c ∧ c ≤ 156) → ¬ (c = 202 ∧ 0 ≤ i ∧ i < 16) → w2.2 c i = w.2 c i := fun c i z1 z2 => (u4 c i z2).trans (v4 c i z1).2
        have hnew : ∃ h nm, vl_R w2 131 h nm ∧ mk_R w2 0 0 h nm := by
          refine ⟨hh, nm, vl_R_f2 (w := w1) (fun k i p q => u3 k i (by omega) (by omega) (by omega)) (fun k i p q => u4 k i (by omega)) (vl_R_eq v1 v2 b4), ps_Q_eq b5 (fun j hj => ?_) (fun j hj => ?_)⟩
          · show (w2.1 201 (0 + j)).toInt = (w.1 186 j).toInt
            rw [Nat.zero_add, u1 j hj, (v4 186 j (by omega)).1]
          · show w2.2 202 (0 + j) = w.2 189 j
            rw [Nat.zero_add, u2 j hj, (v4 189 j (by omega)).2]
        have hold : (w2.1 157 0).toInt ≠ 0 → ∃ h nm, vl_R w2 158 h nm ∧ mk_R w2 301 16 h nm := by
          intro z
          rw [g1 157 0 (by omega) (by omega) (by omega) (by omega)] at z
          obtain ⟨h9, n9, z1, z2⟩ := b7 z
          exact ⟨h9, n9, vl_R_f2 (fun k i p q => g1 k i (by omega) (by omega) (by omega) (by omega)) (fun k i p q => g2 k i (by omega) (by omega)) z1, mk_R_f2 (fun i hi => g1 201 _ (by omega) (by omega) (by omega) (by omega)) (fun i hi => g2 202 _ (by omega) (by omega)) z2⟩
        have hJ : jRl w2 := ⟨fun j hj => by rw [g1 185 j (by omega) (by omega) (by omega) (by omega), g1 1 j (by omega) (by omega) (by omega) (by omega)]; exact b1 j hj, fun k hk => by rw [g2 3 k (by omega) (by omega)]; exact b2 k hk, fun k hk => by rw [g2 190 k (by omega) (by omega)]; exact b3 k hk, ⟨hh, nm, vl_R_f2 (fun k i p q => g1 k i (by omega) (by omega) (by omega) (by omega)) (fun k i p q => g2 k i (by omega) (by omega)) b4, mv_R_f2 (fun i hi => g1 186 i (by omega) (by omega) (by omega) (by omega)) (fun i hi => g2 189 i (by omega) (by omega)) b5⟩, fun _ => hnew, hold⟩
        exact ⟨x, w1, y, w2, hC1, hC2, ⟨h2, htt, ⟨by rw [f3, m1, n1], by rw [f4, m2, n2, f2]; exact q1⟩, hJ⟩, by rw [e1, e2]⟩
      · exact absurd c1 (by omega)
      · exact absurd c1 (by omega)
    · rcases ey with ⟨c2, e2, n1, n2⟩ | ⟨c2, e2, n1, n2⟩ | ⟨c2, e2, n1, n2⟩
      · exact absurd c1 (by omega)
      · skip
        obtain ⟨x', w1', hC1', v1, v2, v3, v4⟩ := ci_image1 (w := w) (k := a1) c1 h.1
        obtain ⟨-, rfl⟩ := Prod.mk.inj (cm_det hC1 hC1')
        obtain ⟨y', w2', hC2', u1, u2, u3, u4⟩ := ri_image1 (w := w1) (k := a1) c1
        obtain ⟨-, rfl⟩ := Prod.mk.inj (cm_det hC2 hC2')
        have g1 : ∀ c i, ¬ (157 ≤ c ∧ c ≤ 183) → ¬ (c = 184 ∧ i = 0) → ¬ (c = 201 ∧ 301 ≤ i ∧ i < 602) → ¬ (c = 203 ∧ i = 1) → w2.1 c i = w.1 c i := fun c i z1 z2 z3 z4 => (u3 c i z2 z3 z4).trans (v4 c i z1).1
        have g2 : ∀ c i, ¬ (157 ≤ c ∧ c ≤ 183) → ¬ (c = 202 ∧ 16 ≤ i ∧ i < 32) → w2.2 c i = w.2 c i := fun c i z1 z2 => (u4 c i z2).trans (v4 c i z1).2
        have hnew : ∃ h nm, vl_R w2 158 h nm ∧ mk_R w2 301 16 h nm := by
          refine ⟨hh, nm, vl_R_f2 (w := w1) (fun k i p q => u3 k i (by omega) (by omega) (by omega)) (fun k i p q => u4 k i (by omega)) (vl_R_eq v1 v2 b4), ps_Q_eq b5 (fun j hj => ?_) (fun j hj => ?_)⟩
          · show (w2.1 201 (301 + j)).toInt = (w.1 186 j).toInt
            rw [u1 j hj, (v4 186 j (by omega)).1]
          · show w2.2 202 (16 + j) = w.2 189 j
            rw [u2 j hj, (v4 189 j (by omega)).2]
        have hold : (w2.1 130 0).toInt ≠ 0 → ∃ h nm, vl_R w2 131 h nm ∧ mk_R w2 0 0 h nm := by
          intro z
          rw [g1 130 0 (by omega) (by omega) (by omega) (by omega)] at z
          obtain ⟨h9, n9, z1, z2⟩ := b6 z
          exact ⟨h9, n9, vl_R_f2 (fun k i p q => g1 k i (by omega) (by omega) (by omega) (by omega)) (fun k i p q => g2 k i (by omega) (by omega)) z1, mk_R_f2 (fun i hi => g1 201 _ (by omega) (by omega) (by omega) (by omega)) (fun i hi => g2 202 _ (by omega) (by omega)) z2⟩
        have hJ : jRl w2 := ⟨fun j hj => by rw [g1 185 j (by omega) (by omega) (by omega) (by omega), g1 1 j (by omega) (by omega) (by omega) (by omega)]; exact b1 j hj, fun k hk => by rw [g2 3 k (by omega) (by omega)]; exact b2 k hk, fun k hk => by rw [g2 190 k (by omega) (by omega)]; exact b3 k hk, ⟨hh, nm, vl_R_f2 (fun k i p q => g1 k i (by omega) (by omega) (by omega) (by omega)) (fun k i p q => g2 k i (by omega) (by omega)) b4, mv_R_f2 (fun i hi => g1 186 i (by omega) (by omega) (by omega) (by omega)) (fun i hi => g2 189 i (by omega) (by omega)) b5⟩, hold, fun _ => hnew⟩
        exact ⟨x, w1, y, w2, hC1, hC2, ⟨h2, htt, ⟨by rw [f3, m2, n2, f1]; exact q0, by rw [f4, m1, n1]⟩, hJ⟩, by rw [e1, e2]⟩
      · exact absurd c1 (by omega)
    · rcases ey with ⟨c2, e2, n1, n2⟩ | ⟨c2, e2, n1, n2⟩ | ⟨c2, e2, n1, n2⟩
      · exact absurd c2 (by omega)
      · exact absurd c2 (by omega)
      · obtain ⟨-, rfl⟩ := Prod.mk.inj (cm_det hC1 (ci_imageN (w := w) c1))
        obtain ⟨-, rfl⟩ := Prod.mk.inj (cm_det hC2 (ri_imageN (w := w1) c1))
        exact ⟨x, w1, y, _, hC1, hC2, ⟨h2, htt, ⟨by rw [f3, n1]; exact q0, by rw [f4, n2]; exact q1⟩, jRl_0 hRl⟩, by rw [e1, e2]⟩
theorem il_image : jLn 17 112 1 := jLn_of ie_image
theorem ie_restore : jLe 37 138 1 := by
  intro r w as hr hk h
  obtain ⟨h, hT⟩ := h
  obtain ⟨ht, ⟨q0, q1⟩, hRl⟩ := id hT
  match as, hk with
  | [a1], _ =>
    obtain ⟨x, w1, hC1, h1, o1, tx, ex, f1⟩ := ix_restore (w := w) (a1 := a1) (show r ≤ 4000 by omega) h
    obtain ⟨y, w2, hC2, h2, o2, ty, ey, f2⟩ := im_restore (w := w1) (a1 := a1) (show r + 1 ≤ 4000 by omega) h1
    have htt : (w2.1 0 1).toInt = (w2.1 184 2).toInt := by rw [o2, tx, ty, o1]; exact ht
    obtain ⟨b1, b2, b3, b4, b6, b7⟩ := id hRl
    have hfl : (w2.1 130 0).toInt = (w2.1 203 0).toInt ∧ (w2.1 157 0).toInt = (w2.1 203 1).toInt := by
      obtain ⟨z1, z2, z3, z4⟩ := f1
      obtain ⟨z5, z6, z7, z8⟩ := f2
      rw [z5, z6, z7, z8, z1, z2, z3, z4]
      exact ⟨q0, q1⟩
    rw [f1.2.2.1, f1.2.2.2] at ey
    rcases ex with ⟨c1, c2, e1⟩ | ⟨c1, c2, e1⟩ | ⟨c1, c2, e1⟩
    · rcases ey with ⟨d1, d2, e2⟩ | ⟨d1, d2, e2⟩ | ⟨d1, d2, e2⟩
      · skip
        obtain ⟨x', w1', hC1', v1, v2, v4⟩ := ci_restore0 (w := w) (k := a1) c1 c2 h.1
        obtain ⟨-, rfl⟩ := Prod.mk.inj (cm_det hC1 hC1')
        obtain ⟨y', w2', hC2', u1, u2, u3, u4⟩ := ri_restore0 (w := w1) (k := a1) c1 (by rw [f1.2.2.1]; exact d2)
        obtain ⟨-, rfl⟩ := Prod.mk.inj (cm_det hC2 hC2')
        have g1 : ∀ c i, ¬ (4 ≤ c ∧ c ≤ 17) → ¬ (33 ≤ c ∧ c ≤ 39) → c ≠ 47 → ¬ (106 ≤ c ∧ c ≤ 109) → c ≠ 184 → c ≠ 186 → w2.1 c i = w.1 c i := fun c i z1 z2 z3 z4 z5 z6 => (u3 c i (by omega) z6).trans (v4 c i z1 z2 z3 z4).1
        have g2 : ∀ c i, ¬ (4 ≤ c ∧ c ≤ 17) → ¬ (33 ≤ c ∧ c ≤ 39) → c ≠ 47 → ¬ (106 ≤ c ∧ c ≤ 109) → ¬ (c = 189 ∧ i < 16) → w2.2 c i = w.2 c i := fun c i z1 z2 z3 z4 z5 => (u4 c i z5).trans (v4 c i z1 z2 z3 z4).2
        obtain ⟨hh, nm, z1, z2⟩ := b6 c2
        have hnew : ∃ h nm, vl_R w2 4 h nm ∧ mv_R w2 h nm := by
          refine ⟨hh, nm, vl_R_f2 (w := w1) (fun k i p q => u3 k i (by omega) (by omega)) (fun k i p q => u4 k i (by omega)) (vl_R_eq v1 v2 z1), ps_Q_eq z2 (fun j hj => ?_) (fun j hj => ?_)⟩
          · show (w2.1 186 j).toInt = (w.1 201 (0 + j)).toInt
            rw [u1 j hj, Nat.zero_add, (v4 201 _ (by omega) (by omega) (by omega) (by omega)).1]
          · show w2.2 189 j = w.2 202 (0 + j)
            rw [u2 j hj, Nat.zero_add, (v4 202 _ (by omega) (by omega) (by omega) (by omega)).2]
        have i0 : (w2.1 130 0).toInt ≠ 0 → ∃ h nm, vl_R w2 131 h nm ∧ mk_R w2 0 0 h nm := by
          intro z
          rw [g1 130 0 (by omega) (by omega) (by omega) (by omega) (by omega) (by omega)] at z
          obtain ⟨h9, n9, z1, z2⟩ := b6 z
          exact ⟨h9, n9, vl_R_f2 (fun k i p q => g1 k i (by omega) (by omega) (by omega) (by omega) (by omega) (by omega)) (fun k i p q => g2 k i (by omega) (by omega) (by omega) (by omega) (by omega)) z1, mk_R_f2 (fun i hi => g1 201 _ (by omega) (by omega) (by omega) (by omega) (by omega) (by omega)) (fun i hi => g2 202 _ (by omega) (by omega) (by omega) (by omega) (by omega)) z2⟩
        have i1 : (w2.1 157 0).toInt ≠ 0 → ∃ h nm, vl_R w2 158 h nm ∧ mk_R w2 301 16 h nm := by
          intro z
          rw [g1 157 0 (by omega) (by omega) (by omega) (by omega) (by omega) (by omega)] at z
          obtain ⟨h9, n9, z1, z2⟩ := b7 z
          exact ⟨h9, n9, vl_R_f2 (fun k i p q => g1 k i (by omega) (by omega) (by omega) (by omega) (by omega) (by omega)) (fun k i p q => g2 k i (by omega) (by omega) (by omega) (by omega) (by omega)) z1, mk_R_f2 (fun i hi => g1 201 _ (by omega) (by omega) (by omega) (by omega) (by omega) (by omega)) (fun i hi => g2 202 _ (by omega) (by omega) (by omega) (by omega) (by omega)) z2⟩
        have hJ : jRl w2 := ⟨fun j hj => by rw [g1 185 j (by omega) (by omega) (by omega) (by omega) (by omega) (by omega), g1 1 j (by omega) (by omega) (by omega) (by omega) (by omega) (by omega)]; exact b1 j hj, fun k hk => by rw [g2 3 k (by omega) (by omega) (by omega) (by omega) (by omega)]; exact b2 k hk, fun k hk => by rw [g2 190 k (by omega) (by omega) (by omega) (by omega) (by omega)]; exact b3 k hk, hnew, i0, i1⟩
        exact ⟨x, w1, y, w2, hC1, hC2, ⟨h2, htt, hfl, hJ⟩, by rw [e1, e2]⟩
      · exact absurd c1 (by omega)
      · exact absurd c1 (by omega)
    · rcases ey with ⟨d1, d2, e2⟩ | ⟨d1, d2, e2⟩ | ⟨d1, d2, e2⟩
      · exact absurd c1 (by omega)
      · skip
        obtain ⟨x', w1', hC1', v1, v2, v4⟩ := ci_restore1 (w := w) (k := a1) c1 c2 h.1
        obtain ⟨-, rfl⟩ := Prod.mk.inj (cm_det hC1 hC1')
        obtain ⟨y', w2', hC2', u1, u2, u3, u4⟩ := ri_restore1 (w := w1) (k := a1) c1 (by rw [f1.2.2.2]; exact d2)
        obtain ⟨-, rfl⟩ := Prod.mk.inj (cm_det hC2 hC2')
        have g1 : ∀ c i, ¬ (4 ≤ c ∧ c ≤ 17) → ¬ (33 ≤ c ∧ c ≤ 39) → c ≠ 47 → ¬ (106 ≤ c ∧ c ≤ 109) → c ≠ 184 → c ≠ 186 → w2.1 c i = w.1 c i := fun c i z1 z2 z3 z4 z5 z6 => (u3 c i (by omega) z6).trans (v4 c i z1 z2 z3 z4).1
        have g2 : ∀ c i, ¬ (4 ≤ c ∧ c ≤ 17) → ¬ (33 ≤ c ∧ c ≤ 39) → c ≠ 47 → ¬ (106 ≤ c ∧ c ≤ 109) → ¬ (c = 189 ∧ i < 16) → w2.2 c i = w.2 c i := fun c i z1 z2 z3 z4 z5 => (u4 c i z5).trans (v4 c i z1 z2 z3 z4).2
        obtain ⟨hh, nm, z1, z2⟩ := b7 c2
        have hnew : ∃ h nm, vl_R w2 4 h nm ∧ mv_R w2 h nm := by
          refine ⟨hh, nm, vl_R_f2 (w := w1) (fun k i p q => u3 k i (by omega) (by omega)) (fun k i p q => u4 k i (by omega)) (vl_R_eq v1 v2 z1), ps_Q_eq z2 (fun j hj => ?_) (fun j hj => ?_)⟩
          · show (w2.1 186 j).toInt = (w.1 201 (301 + j)).toInt
            rw [u1 j hj, (v4 201 _ (by omega) (by omega) (by omega) (by omega)).1]
          · show w2.2 189 j = w.2 202 (16 + j)
            rw [u2 j hj, (v4 202 _ (by omega) (by omega) (by omega) (by omega)).2]
        have i0 : (w2.1 130 0).toInt ≠ 0 → ∃ h nm, vl_R w2 131 h nm ∧ mk_R w2 0 0 h nm := by
          intro z
          rw [g1 130 0 (by omega) (by omega) (by omega) (by omega) (by omega) (by omega)] at z
          obtain ⟨h9, n9, z1, z2⟩ := b6 z
          exact ⟨h9, n9, vl_R_f2 (fun k i p q => g1 k i (by omega) (by omega) (by omega) (by omega) (by omega) (by omega)) (fun k i p q => g2 k i (by omega) (by omega) (by omega) (by omega) (by omega)) z1, mk_R_f2 (fun i hi => g1 201 _ (by omega) (by omega) (by omega) (by omega) (by omega) (by omega)) (fun i hi => g2 202 _ (by omega) (by omega) (by omega) (by omega) (by omega)) z2⟩
        have i1 : (w2.1 157 0).toInt ≠ 0 → ∃ h nm, vl_R w2 158 h nm ∧ mk_R w2 301 16 h nm := by
          intro z
          rw [g1 157 0 (by omega) (by omega) (by omega) (by omega) (by omega) (by omega)] at z
          obtain ⟨h9, n9, z1, z2⟩ := b7 z
          exact ⟨h9, n9, vl_R_f2 (fun k i p q => g1 k i (by omega) (by omega) (by omega) (by omega) (by omega) (by omega)) (fun k i p q => g2 k i (by omega) (by omega) (by omega) (by omega) (by omega)) z1, mk_R_f2 (fun i hi => g1 201 _ (by omega) (by omega) (by omega) (by omega) (by omega) (by omega)) (fun i hi => g2 202 _ (by omega) (by omega) (by omega) (by omega) (by omega)) z2⟩
        have hJ : jRl w2 := ⟨fun j hj => by rw [g1 185 j (by omega) (by omega) (by omega) (by omega) (by omega) (by omega), g1 1 j (by omega) (by omega) (by omega) (by omega) (by omega) (by omega)]; exact b1 j hj, fun k hk => by rw [g2 3 k (by omega) (by omega) (by omega) (by omega) (by omega)]; exact b2 k hk, fun k hk => by rw [g2 190 k (by omega) (by omega) (by omega) (by omega) (by omega)]; exact b3 k hk, hnew, i0, i1⟩
        exact ⟨x, w1, y, w2, hC1, hC2, ⟨h2, htt, hfl, hJ⟩, by rw [e1, e2]⟩
      · exact absurd c1 (by omega)
    · rcases ey with ⟨d1, d2, e2⟩ | ⟨d1, d2, e2⟩ | ⟨d1, d2, e2⟩
      · exact absurd d1 (by omega)
      · exact absurd d1 (by omega)
      · have hw1 : w1 = w := by
          by_cases z0 : a1.toInt = 0
          · exact (Prod.mk.inj (cm_det hC1 (ci_restoreE0 (w := w) z0 (by omega)))).2
          · by_cases z1 : a1.toInt = 1
            · exact (Prod.mk.inj (cm_det hC1 (ci_restoreE1 (w := w) z1 (by omega)))).2
            · exact (Prod.mk.inj (cm_det hC1 (ci_restoreN (w := w) (by omega)))).2
        subst hw1
        have hw2 : w2 = cm_u1 w1 184 0 (Int32.ofInt 0) := by
          by_cases z0 : a1.toInt = 0
          · exact (Prod.mk.inj (cm_det hC2 (ri_restoreE0 (w := w1) z0 (by omega)))).2
          · by_cases z1 : a1.toInt = 1
            · exact (Prod.mk.inj (cm_det hC2 (ri_restoreE1 (w := w1) z1 (by omega)))).2
            · exact (Prod.mk.inj (cm_det hC2 (ri_restoreN (w := w1) (by omega)))).2
        refine ⟨x, w1, y, w2, hC1, hC2, ⟨h2, htt, hfl, ?_⟩, by rw [e1, e2]⟩
        rw [hw2]
        exact jRl_0 hRl
theorem il_restore : jLn 37 138 1 := jLn_of ie_restore
theorem ie_feed : jLe 13 105 5 := by
  intro r w as hr hk h
  obtain ⟨h, hT⟩ := h
  obtain ⟨ht, hfl, hRl⟩ := id hT
  match as, hk with
  | [a, b, c, d, e], _ =>
    obtain ⟨x, w1, hC1, f1, f2⟩ := hs_feedX a b c d e w h.1
    have hw1 : (∀ k i, k ≠ 1 → ¬ (k = 0 ∧ i = 1) → w1.1 k i = w.1 k i) ∧ sv_w sg w1 ∧ ((w.1 0 1).toInt ≤ 920 → x.toInt = (w.1 0 1).toInt + 20 ∧ (w1.1 0 1).toInt = (w.1 0 1).toInt + 20) ∧ (920 < (w.1 0 1).toInt → x = -1 ∧ w1.1 0 1 = w.1 0 1) := by
      by_cases hc : (w.1 0 1).toInt ≤ 920
      · obtain ⟨g1, g2, g3, -, g5⟩ := f1 hc
        exact ⟨g3, g5, fun _ => ⟨g1, g2⟩, fun z => absurd z (by omega)⟩
      · obtain ⟨g1, g2⟩ := f2 (by omega)
        subst g2
        exact ⟨fun _ _ _ _ => rfl, h.1, fun z => absurd z hc, fun _ => ⟨g1, rfl⟩⟩
    obtain ⟨u1, u2, u3, u4⟩ := hw1
    have h1 : jIw (r + 1) w1 := jIw_fr (fun k i hs => by unfold jSpp jSup at hs; exact u1 k i (by omega) (by omega)) u2 h
    have o1 : w1.1 184 2 = w.1 184 2 := u1 184 2 (by decide) (by omega)
    obtain ⟨y, w2, hC2, f3, f4⟩ := hs_feedM a b c d e w1 u2
    have hw2 : (∀ k i, k ≠ 185 → ¬ (k = 184 ∧ (i = 2 ∨ i = 0)) → w2.1 k i = w1.1 k i) ∧ sv_w sg w2 ∧ ((w1.1 184 2).toInt ≤ 920 → y.toInt = (w1.1 184 2).toInt + 20 ∧ (w2.1 184 2).toInt = (w1.1 184 2).toInt + 20) ∧ (920 < (w1.1 184 2).toInt → y = -1 ∧ w2.1 184 2 = w1.1 184 2) := by
      by_cases hc : (w1.1 184 2).toInt ≤ 920
      · obtain ⟨g1, g2, g3, -, g5⟩ := f3 hc
        exact ⟨fun k i k1 k2 => (g3 k i k1 (by omega)).trans (hs_u1_ne (by omega)), g5, fun _ => ⟨g1, g2⟩, fun z => absurd z (by omega)⟩
      · obtain ⟨g1, g2⟩ := f4 (by omega)
        subst g2
        refine ⟨fun k i k1 k2 => hs_u1_ne (by omega), sv_w_u1 u2 (by rw [xg_59f145a5]; exact hb_mk (by decide) (by decide)), fun z => absurd z hc, fun _ => ⟨g1, hs_u1_ne (by omega)⟩⟩
    obtain ⟨v1, v2, v3, v4⟩ := hw2
    have h2 : jIw (r + 2) w2 := jIw_fr (fun k i hs => by unfold jSpp jSup at hs; exact v1 k i (by omega) (by omega)) v2 h1
    have o2 : w2.1 0 1 = w1.1 0 1 := v1 0 1 (by decide) (by omega)
    rw [o1] at v3 v4
    have hfl2 : (w2.1 130 0).toInt = (w2.1 203 0).toInt ∧ (w2.1 157 0).toInt = (w2.1 203 1).toInt := by
      rw [v1 130 0 (by omega) (by omega), v1 157 0 (by omega) (by omega), v1 203 0 (by omega) (by omega), v1 203 1 (by omega) (by omega), u1 130 0 (by omega) (by omega), u1 157 0 (by omega) (by omega), u1 203 0 (by omega) (by omega), u1 203 1 (by omega) (by omega)]
      exact hfl
    have n1 : jF2 w w1 := fun k i hq => by
      by_cases hc : (w.1 0 1).toInt ≤ 920
      · exact (f1 hc).2.2.2.1 k i
      · rw [(f2 (by omega)).2]
    have n2 : jF2 w1 w2 := fun k i hq => by
      by_cases hc : (w1.1 184 2).toInt ≤ 920
      · exact (f3 hc).2.2.2.1 k i
      · rw [(f4 (by omega)).2]
        rfl
    have hB : ∀ j, j < 940 → (w2.1 185 j &&& ((Int16.ofInt 255).toInt32)).toInt = (w2.1 1 j).toInt ∧ 0 ≤ (w2.1 1 j).toInt ∧ (w2.1 1 j).toInt ≤ 255 := by
      by_cases hc : (w.1 0 1).toInt ≤ 920
      · have g0 := hb_in (x := w.1 0 1) (lo := 2147483648) (hi := 2147484588) (by have g := h.1 0 1; rw [hs_g1.2.1] at g; exact g)
        obtain ⟨n, hn⟩ : ∃ n : Nat, (w.1 0 1).toInt = (n : Int) := ⟨(w.1 0 1).toInt.toNat, by omega⟩
        obtain ⟨x', w1', hC1', p1, p2, p3⟩ := px_feed (w := w) (a := a) (b := b) (c := c) (d := d) (e := e) hn (by omega)
        obtain ⟨-, rfl⟩ := Prod.mk.inj (cm_det hC1 hC1')
        obtain ⟨y', w2', hC2', r1, r2, r3⟩ := pm_feed (w := w1) (a := a) (b := b) (c := c) (d := d) (e := e) (l := n) (by rw [o1, ← ht]; exact hn) (by omega)
        obtain ⟨-, rfl⟩ := Prod.mk.inj (cm_det hC2 hC2')
        intro j hj
        by_cases hr9 : n ≤ j ∧ j < n + 20
        · have z1 := p1 (j - n) (by omega)
          have z2 := r1 (j - n) (by omega)
          rw [show n + (j - n) = j from by omega] at z1 z2
          have z3 : w2.1 1 j = w1.1 1 j := v1 1 j (by omega) (by omega)
          rw [z3, z1, z2]
          refine ⟨rfl, ?_, ?_⟩
          · unfold fb_f
            omega
          · unfold fb_f fb_b
            omega
        · rw [v1 1 j (by omega) (by omega), p2 1 j (by omega) (by omega), r2 185 j (by omega) (by omega), u1 185 j (by omega) (by omega)]
          exact hRl.1 j hj
      · obtain ⟨-, z1⟩ := f2 (by omega)
        obtain ⟨-, z2⟩ := f4 (by rw [o1, ← ht]; omega)
        intro j hj
        rw [z2, hs_u1_ne (by omega), hs_u1_ne (by omega), z1]
        exact hRl.1 j hj
    have hJ : jRl w2 := by
      obtain ⟨b1, b2, b3, ⟨hh, nm, b4, b5⟩, b6, b7⟩ := id hRl
      have g1 : ∀ k i, k ≠ 1 → k ≠ 0 → k ≠ 185 → k ≠ 184 → w2.1 k i = w.1 k i := fun k i z1 z2 z3 z4 => (v1 k i z3 (by omega)).trans (u1 k i z1 (by omega))
      have g2 : jF2 w w2 := fun k i hq => (n2 k i hq).trans (n1 k i hq)
      unfold jF2 jQ2 at g2
      refine ⟨hB, fun k hk => by rw [g2 3 k (by omega)]; exact b2 k hk, fun k hk => by rw [g2 190 k (by omega)]; exact b3 k hk, ⟨hh, nm, vl_R_f2 (fun k i p q => g1 k i (by omega) (by omega) (by omega) (by omega)) (fun k i p q => g2 k i (by omega)) b4, mv_R_f2 (fun i hi => g1 186 i (by omega) (by omega) (by omega) (by omega)) (fun i hi => g2 189 i (by omega)) b5⟩, fun z => ?_, fun z => ?_⟩
      · rw [g1 130 0 (by omega) (by omega) (by omega) (by omega)] at z
        obtain ⟨h9, n9, z1, z2⟩ := b6 z
        exact ⟨h9, n9, vl_R_f2 (fun k i p q => g1 k i (by omega) (by omega) (by omega) (by omega)) (fun k i p q => g2 k i (by omega)) z1, mk_R_f2 (fun i hi => g1 201 _ (by omega) (by omega) (by omega) (by omega)) (fun i hi => g2 202 _ (by omega)) z2⟩
      · rw [g1 157 0 (by omega) (by omega) (by omega) (by omega)] at z
        obtain ⟨h9, n9, z1, z2⟩ := b7 z
        exact ⟨h9, n9, vl_R_f2 (fun k i p q => g1 k i (by omega) (by omega) (by omega) (by omega)) (fun k i p q => g2 k i (by omega)) z1, mk_R_f2 (fun i hi => g1 201 _ (by omega) (by omega) (by omega) (by omega)) (fun i hi => g2 202 _ (by omega)) z2⟩
    refine ⟨x, w1, y, w2, cm_C_mono (by decide) hC1, cm_C_mono (by decide) hC2, ⟨h2, ?_, hfl2, hJ⟩, ?_⟩
    · by_cases hc : (w.1 0 1).toInt ≤ 920
      · rw [o2, (u3 hc).2, (v3 (by omega)).2]; omega
      · rw [o2, (u4 (by omega)).2, (v4 (by omega)).2]; exact ht
    · by_cases hc : (w.1 0 1).toInt ≤ 920
      · exact Int32.toInt_inj.mp (by rw [(u3 hc).1, (v3 (by omega)).1]; omega)
      · rw [(u4 (by omega)).1, (v4 (by omega)).1]
theorem il_feed : jLn 13 105 5 := jLn_of ie_feed

set_option maxRecDepth 100000 in
theorem xd_9c8bff45 : decode (ia_code 62) 0 = .ok (.aload_n 0, 1) := fdd_d (by decide +kernel)
set_option maxRecDepth 100000 in
theorem xd_609bef4c : decode (ia_code 62) 1 = .ok (.iload_n 1, 1) := fdd_d (by decide +kernel)
set_option maxRecDepth 100000 in
theorem xd_711d2cac : decode (ia_code 62) 2 = .ok (.aload_n 0, 1) := fdd_d (by decide +kernel)
set_option maxRecDepth 100000 in
theorem xd_234bd021 : decode (ia_code 62) 3 = .ok (.getfield 15, 3) := fdd_d (by decide +kernel)
set_option maxRecDepth 100000 in
theorem xf_6f857ad8 : wk_gf 62 15 2 0 (1 + 3) = true := by decide +kernel
set_option maxRecDepth 100000 in
theorem xd_cb89829a : decode (ia_code 62) 6 = .ok (.arraylength, 1) := fdd_d (by decide +kernel)
set_option maxRecDepth 100000 in
theorem xf_824268f7 : aw_al 1 940 = true := by decide +kernel
set_option maxRecDepth 100000 in
theorem xd_406d3f88 : decode (ia_code 62) 7 = .ok (.invokestatic 33, 3) := fdd_d (by decide +kernel)
set_option maxRecDepth 100000 in
theorem xl_5ae9b871 : ia_pl (ia_cls 62) 33 = some (7, 0, 0, 0, 715) := by decide +kernel
set_option maxRecDepth 100000 in
theorem xd_f3b316a5 : decode (ia_code 62) 10 = .ok (.putfield 39, 3) := fdd_d (by decide +kernel)
set_option maxRecDepth 100000 in
theorem xf_cd5eef1d : wk_pf 62 39 2 2 0 = true := by decide +kernel
set_option maxRecDepth 100000 in
theorem xd_f8a7da96 : decode (ia_code 62) 13 = .ok (.aload_n 0, 1) := fdd_d (by decide +kernel)
set_option maxRecDepth 100000 in
theorem xd_aeddc235 : decode (ia_code 62) 14 = .ok (.iload_n 2, 1) := fdd_d (by decide +kernel)
set_option maxRecDepth 100000 in
theorem xd_fa30e449 : decode (ia_code 62) 15 = .ok (.putfield 43, 3) := fdd_d (by decide +kernel)
set_option maxRecDepth 100000 in
theorem xf_6baa51a2 : wk_pf 62 43 2 3 0 = true := by decide +kernel
set_option maxRecDepth 100000 in
theorem xd_8efba08d : decode (ia_code 62) 18 = .ok (.aload_n 0, 1) := fdd_d (by decide +kernel)
set_option maxRecDepth 100000 in
theorem xd_aa562e74 : decode (ia_code 62) 19 = .ok (.iconst 0, 1) := fdd_d (by decide +kernel)
set_option maxRecDepth 100000 in
theorem xd_9eb15c34 : decode (ia_code 62) 20 = .ok (.putfield 46, 3) := fdd_d (by decide +kernel)
set_option maxRecDepth 100000 in
theorem xf_0dd524b6 : wk_pf 62 46 2 4 0 = true := by decide +kernel
set_option maxRecDepth 100000 in
theorem xd_a0b973be : decode (ia_code 62) 23 = .ok (.aload_n 0, 1) := fdd_d (by decide +kernel)
set_option maxRecDepth 100000 in
theorem xd_2e79c689 : decode (ia_code 62) 24 = .ok (.iconst 0, 1) := fdd_d (by decide +kernel)
set_option maxRecDepth 100000 in
theorem xd_42d71110 : decode (ia_code 62) 25 = .ok (.putfield 49, 3) := fdd_d (by decide +kernel)
set_option maxRecDepth 100000 in
theorem xf_ee2991dc : wk_pf 62 49 2 11 0 = true := by decide +kernel
set_option maxRecDepth 100000 in
theorem xd_d6e509a5 : decode (ia_code 62) 28 = .ok (.aload_n 0, 1) := fdd_d (by decide +kernel)
set_option maxRecDepth 100000 in
theorem xd_dcb31749 : decode (ia_code 62) 29 = .ok (.iconst 0, 1) := fdd_d (by decide +kernel)
set_option maxRecDepth 100000 in
theorem xd_47708fc6 : decode (ia_code 62) 30 = .ok (.putfield 52, 3) := fdd_d (by decide +kernel)
set_option maxRecDepth 100000 in
theorem xf_75821db0 : wk_pf 62 52 2 12 0 = true := by decide +kernel
set_option maxRecDepth 100000 in
theorem xd_219c1699 : decode (ia_code 62) 33 = .ok (.aload_n 0, 1) := fdd_d (by decide +kernel)
set_option maxRecDepth 100000 in
theorem xl_daf63530 : ia_pl (ia_cls 62) 55 = some (1, 61, 0, 0, 718) := by decide +kernel
set_option maxRecDepth 100000 in
theorem xd_7b3f2e12 : decode (ia_code 62) 34 = .ok (.invokevirtual 55, 3) := fdd_d (by decide +kernel)
set_option maxRecDepth 100000 in
theorem xd_0dc2ab1a : decode (ia_code 62) 37 = .ok (.return_, 1) := fdd_d (by decide +kernel)
set_option maxRecDepth 100000 in
theorem xr_9babe97a : ia_ret 62 = none := by decide +kernel
set_option maxRecDepth 100000 in
theorem xm_9e3c6795 : ia_maxL 62 = 3 := by decide +kernel
set_option maxRecDepth 100000 in
theorem xs_71_4d1d0ea9 {w : cm_W} (hG : sv_w sg w) : ∃ w' : cm_W, cm_C 1 71 [.inr (.inr (some 33))] w (none, w') ∧ sv_w sg w' ∧ (∀ k i, ¬ ((k = 33 ∧ 1 ≤ i ∧ i ≤ 3) ∨ (k = 34 ∧ 0 ≤ i ∧ i ≤ 5) ∨ (k = 35 ∧ 0 ≤ i ∧ i ≤ 5) ∨ (k = 36 ∧ 0 ≤ i ∧ i ≤ 5) ∨ (k = 37 ∧ 0 ≤ i ∧ i ≤ 3) ∨ (k = 38 ∧ 0 ≤ i ∧ i ≤ 5) ∨ (k = 39 ∧ 0 ≤ i ∧ i ≤ 9)) → w'.1 k i = w.1 k i ∧ w'.2 k i = w.2 k i) ∧ ((True)) := by
  obtain ⟨r, w', hC, hG', hF, q, hq, hr, hp, hs⟩ := wk_use (d := 1) sm_71_4d1d0ea9_ok (by decide) (as := [.inr (.inr (some 33))]) (w := w) ⟨rfl, trivial⟩ (fun f hf => by
    cases hf) hG
  have hfr : ∀ k i, ¬ ((k = 33 ∧ 1 ≤ i ∧ i ≤ 3) ∨ (k = 34 ∧ 0 ≤ i ∧ i ≤ 5) ∨ (k = 35 ∧ 0 ≤ i ∧ i ≤ 5) ∨ (k = 36 ∧ 0 ≤ i ∧ i ≤ 5) ∨ (k = 37 ∧ 0 ≤ i ∧ i ≤ 3) ∨ (k = 38 ∧ 0 ≤ i ∧ i ≤ 5) ∨ (k = 39 ∧ 0 ≤ i ∧ i ≤ 9)) → w'.1 k i = w.1 k i ∧ w'.2 k i = w.2 k i := fun k i hki => hF k i (fun ⟨r, z, z1, z2, z3⟩ => by
    simp only [sm_71_4d1d0ea9, List.mem_cons, List.not_mem_nil, or_false] at z
    rcases z with rfl | rfl | rfl | rfl | rfl | rfl | rfl
    all_goals (simp only at z1 z2 z3; omega))
  simp only [sm_71_4d1d0ea9, List.mem_cons, List.not_mem_nil, or_false] at hq
  rcases hq with rfl
  · obtain rfl : r = none := by
      match r, hr with
      | none, _ => rfl
    exact ⟨w', hC, hG', hfr, (trivial)⟩
set_option maxRecDepth 100000 in
theorem xs_66_6b9ada4d {w : cm_W} (hG : sv_w sg w) : ∃ w' : cm_W, cm_C 1 66 [.inr (.inr (some 106))] w (none, w') ∧ sv_w sg w' ∧ (∀ k i, ¬ ((k = 106 ∧ 0 ≤ i ∧ i ≤ 1)) → w'.1 k i = w.1 k i ∧ w'.2 k i = w.2 k i) ∧ ((True)) := by
  obtain ⟨r, w', hC, hG', hF, q, hq, hr, hp, hs⟩ := wk_use (d := 1) sm_66_6b9ada4d_ok (by decide) (as := [.inr (.inr (some 106))]) (w := w) ⟨rfl, trivial⟩ (fun f hf => by
    cases hf) hG
  have hfr : ∀ k i, ¬ ((k = 106 ∧ 0 ≤ i ∧ i ≤ 1)) → w'.1 k i = w.1 k i ∧ w'.2 k i = w.2 k i := fun k i hki => hF k i (fun ⟨r, z, z1, z2, z3⟩ => by
    simp only [sm_66_6b9ada4d, List.mem_cons, List.not_mem_nil, or_false] at z
    rcases z with rfl
    all_goals (simp only at z1 z2 z3; omega))
  simp only [sm_66_6b9ada4d, List.mem_cons, List.not_mem_nil, or_false] at hq
  rcases hq with rfl
  · obtain rfl : r = none := by
      match r, hr with
      | none, _ => rfl
    exact ⟨w', hC, hG', hfr, (trivial)⟩
set_option maxRecDepth 100000 in
theorem xs_53_895c94a4 {w : cm_W} (hG : sv_w sg w) : ∃ w' : cm_W, cm_C 1 53 [.inr (.inr (some 47))] w (none, w') ∧ sv_w sg w' ∧ (∀ k i, ¬ ((k = 47 ∧ i = 2)) → w'.1 k i = w.1 k i ∧ w'.2 k i = w.2 k i) ∧ ((True)) := by
  obtain ⟨r, w', hC, hG', hF, q, hq, hr, hp, hs⟩ := wk_use (d := 1) sm_53_895c94a4_ok (by decide) (as := [.inr (.inr (some 47))]) (w := w) ⟨rfl, trivial⟩ (fun f hf => by
    cases hf) hG
  have hfr : ∀ k i, ¬ ((k = 47 ∧ i = 2)) → w'.1 k i = w.1 k i ∧ w'.2 k i = w.2 k i := fun k i hki => hF k i (fun ⟨r, z, z1, z2, z3⟩ => by
    simp only [sm_53_895c94a4, List.mem_cons, List.not_mem_nil, or_false] at z
    rcases z with rfl
    all_goals (simp only at z1 z2 z3; omega))
  simp only [sm_53_895c94a4, List.mem_cons, List.not_mem_nil, or_false] at hq
  rcases hq with rfl
  · obtain rfl : r = none := by
      match r, hr with
      | none, _ => rfl
    exact ⟨w', hC, hG', hfr, (trivial)⟩
/-! ## the class opens its tape, reads a valley (wip/p4/gen9vt.py) -/
theorem op_ok {w : cm_W} {T : Nat → Int} {n m : Nat} {a b : Int32} (hT : ∀ j, j < 940 → (w.1 1 j).toInt = T j) (hW : ∀ k, k < 22 → w.2 3 k = Int64.ofNat (tx_rw.getD k 0)) (ha : a.toInt = (n : Int)) (hb : b.toInt = (m : Int)) (hn9 : n ≤ 940) (hm9 : m ≤ 940) : ∃ w', cm_C 3 62 [.inr (.inr (some 2)), .inl a, .inl b] w (none, w') ∧ rd_L w' T n m 0 ∧ (w'.1 2 11).toInt = 0 ∧ (∀ k i, ¬ (k = 2 ∧ 2 ≤ i ∧ i ≤ 12) → w'.1 k i = w.1 k i ∧ w'.2 k i = w.2 k i) := by
  have h : ∃ o, cm_C (2 + 1) 62 [.inr (.inr (some 2)), .inl a, .inl b] w o ∧ (fun o : cm_O => ∃ w', o = (none, w') ∧ rd_L w' T n m 0 ∧ (w'.1 2 11).toInt = 0 ∧ (∀ k i, ¬ (k = 2 ∧ 2 ≤ i ∧ i ≤ 12) → w'.1 k i = w.1 k i ∧ w'.2 k i = w.2 k i)) o := by
    refine wk_entry (by rw [xm_9e3c6795]; exact Nat.le_of_ble_eq_true rfl) ?_
    rw [show cm_ent 62 [.inr (.inr (some 2)), .inl a, .inl b] = [some (.inr (.inr (some 2))), some (.inl a), some (.inl b)] from by unfold cm_ent; rw [xm_9e3c6795]; rfl]
    refine wk_aload_n xd_9c8bff45 rfl ?_
    refine wk_iload_n xd_609bef4c rfl ?_
    refine wk_aload_n xd_711d2cac rfl ?_
    refine wk_getR xf_6f857ad8 xd_234bd021 ?_
    refine aw_alen xf_824268f7 xd_cb89829a ?_
    refine aw_min (a := ((n : Int) : Int)) (b := (940 : Int)) xl_5ae9b871 rfl xd_406d3f88 ha (show ((Int32.ofNat 940)).toInt = 940 from by decide) (fun v1_ p1_ => ?_)
    refine wk_putI xf_cd5eef1d (fun ci => wk_fitI ci) xd_f3b316a5 ?_
    refine wk_aload_n xd_f8a7da96 rfl ?_
    refine wk_iload_n xd_aeddc235 rfl ?_
    refine wk_putI xf_6baa51a2 (fun ci => wk_fitI ci) xd_fa30e449 ?_
    refine wk_aload_n xd_8efba08d rfl ?_
    refine wk_iconst xd_aa562e74 ?_
    refine wk_putI xf_0dd524b6 (fun ci => wk_fitI ci) xd_9eb15c34 ?_
    refine wk_aload_n xd_a0b973be rfl ?_
    refine wk_iconst xd_2e79c689 ?_
    refine wk_putI xf_ee2991dc (fun ci => wk_fitI ci) xd_42d71110 ?_
    refine wk_aload_n xd_d6e509a5 rfl ?_
    refine wk_iconst xd_dcb31749 ?_
    refine wk_putI xf_75821db0 (fun ci => wk_fitI ci) xd_47708fc6 ?_
    refine wk_aload_n xd_219c1699 rfl ?_
    have hv : (v1_).toInt = (n : Int) := by omega
    have hT2 : rd_T (cm_u1 (cm_u1 (cm_u1 (cm_u1 (cm_u1 w 2 2 v1_) 2 3 b) 2 4 (Int32.ofInt 0)) 2 11 (Int32.ofInt 0)) 2 12 (Int32.ofInt 0)) T n m := ⟨fun j hj => by rw [hs_u1_ne (by omega), hs_u1_ne (by omega), hs_u1_ne (by omega), hs_u1_ne (by omega), hs_u1_ne (by omega)]; exact hT j hj, hv, hb, hn9, hm9, fun k hk => hW k hk⟩
    obtain ⟨w1, hC1, hS1, hR1⟩ := cn_ok (w := (cm_u1 (cm_u1 (cm_u1 (cm_u1 (cm_u1 w 2 2 v1_) 2 3 b) 2 4 (Int32.ofInt 0)) 2 11 (Int32.ofInt 0)) 2 12 (Int32.ofInt 0))) (p := 0) hT2 (by decide : (Int32.ofInt 0).toInt = ((0 : Nat) : Int)) (Nat.zero_le n)
    refine wk_call (kd := 0) (i := 55) xd_7b3f2e12 rfl (wk_cal (as := [.inr (.inr (some 2))]) (t := []) xl_daf63530 rfl xn_568f4fa7 xc_1d38a579 rfl rfl xv_65cfb41b rfl) (cm_C_mono (by omega) hC1) ?_
    refine wk_return xd_0dc2ab1a xr_9babe97a ⟨_, rfl, ⟨rd_T_S hT2 hS1, hR1, Nat.zero_le n⟩, ?_, fun k i hk => ⟨?_, ?_⟩⟩
    · rw [(hS1 2 11 (by omega)).1]
      exact (by decide : (Int32.ofInt 0).toInt = 0)
    · rw [(hS1 k i (by omega)).1, hs_u1_ne (by omega), hs_u1_ne (by omega), hs_u1_ne (by omega), hs_u1_ne (by omega), hs_u1_ne (by omega)]
    · rw [(hS1 k i (by omega)).2]
      rfl
  obtain ⟨o, hC, w', rfl, a⟩ := h
  exact ⟨w', hC, a⟩
theorem rd_L_o0 {w : cm_W} {T : Nat → Int} {n m p : Nat} {x : Int32} (h : rd_L w T n m p) : rd_L (cm_u1 w 0 1 x) T n m p := by
  obtain ⟨h1, h2, h3⟩ := h
  refine ⟨⟨fun j hj => by rw [hs_u1_ne (by omega)]; exact h1.1 j hj, by rw [hs_u1_ne (by omega)]; exact h1.2.1, by rw [hs_u1_ne (by omega)]; exact h1.2.2.1, h1.2.2.2.1, h1.2.2.2.2.1, h1.2.2.2.2.2⟩, ?_, h3⟩
  unfold rd_C at h2 ⊢
  have e : ∀ i, (cm_u1 w 0 1 x).1 2 i = w.1 2 i := fun i => hs_u1_ne (by omega)
  rw [e 6, e 5, e 8, e 2, e 3, e 4, e 9, e 10]
  exact h2
theorem ot_ok {w : cm_W} {T : Nat → Int} {n m : Nat} {a : Int32} (hT : ∀ j, j < 940 → (w.1 1 j).toInt = T j) (hW : ∀ k, k < 22 → w.2 3 k = Int64.ofNat (tx_rw.getD k 0)) (hn : (w.1 0 1).toInt = (n : Int)) (ha : a.toInt = (m : Int)) (hn9 : n ≤ 940) (hm9 : m ≤ 940) : ∃ w', cm_C 4 33 [.inr (.inr (some 0)), .inl a] w (none, w') ∧ rd_L w' T n m 0 ∧ (w'.1 2 11).toInt = 0 ∧ (w'.1 0 1).toInt = 0 ∧ (∀ k i, ¬ (k = 2 ∧ 2 ≤ i ∧ i ≤ 12) → ¬ (k = 0 ∧ i = 1) → w'.1 k i = w.1 k i ∧ w'.2 k i = w.2 k i) := by
  have h : ∃ o, cm_C (3 + 1) 33 [.inr (.inr (some 0)), .inl a] w o ∧ (fun o : cm_O => ∃ w', o = (none, w') ∧ rd_L w' T n m 0 ∧ (w'.1 2 11).toInt = 0 ∧ (w'.1 0 1).toInt = 0 ∧ (∀ k i, ¬ (k = 2 ∧ 2 ≤ i ∧ i ≤ 12) → ¬ (k = 0 ∧ i = 1) → w'.1 k i = w.1 k i ∧ w'.2 k i = w.2 k i)) o := by
    refine wk_entry (by rw [xm_8496ef00]; exact Nat.le_of_ble_eq_true rfl) ?_
    rw [show cm_ent 33 [.inr (.inr (some 0)), .inl a] = [some (.inr (.inr (some 0))), some (.inl a)] from by unfold cm_ent; rw [xm_8496ef00]; rfl]
    refine wk_aload_n xd_745b29d6 rfl ?_
    refine wk_getR xf_953a4ff7 xd_7e617425 ?_
    refine wk_aload_n xd_74078845 rfl ?_
    refine wk_getI xf_aadea398 xd_94667bd8 ?_
    refine wk_iload_n xd_1381902d rfl ?_
    obtain ⟨w1, hC1, hL1, hf1, hF1⟩ := op_ok (w := w) (m := m) hT hW hn ha hn9 hm9
    refine wk_call (kd := 0) (i := 113) xd_096058b8 rfl (wk_cal (as := [.inr (.inr (some 2)), .inl (w.1 0 1), .inl a]) (t := []) xl_8a7af753 rfl xn_ff21545b xc_63e072e9 rfl rfl xv_76e78d68 rfl) (cm_C_mono (by omega) hC1) ?_
    refine wk_aload_n xd_0a3a226a rfl ?_
    refine wk_iconst xd_d5951767 ?_
    refine wk_putI xf_66f0d799 (fun ci => wk_fitI ci) xd_2c88408b ?_
    refine wk_return xd_4b90c2dd xr_1d96acab ⟨_, rfl, rd_L_o0 hL1, ?_, ?_, fun k i hk hk2 => ⟨?_, ?_⟩⟩
    · rw [hs_u1_ne (by omega)]
      exact hf1
    · rw [hs_u1_self]
      decide
    · rw [hs_u1_ne (by omega)]
      exact (hF1 k i hk).1
    · exact (hF1 k i hk).2
  obtain ⟨o, hC, w', rfl, a⟩ := h
  exact ⟨w', hC, a⟩
/-- what the class's valley may change where it finds a fault; where it finds none -/
def vy_V (w w' : cm_W) : Prop := ∀ k i, ¬ (k = 0 ∧ (i = 1 ∨ i = 3)) → k ≠ 2 → ¬ (18 ≤ k ∧ k ≤ 32) → w'.1 k i = w.1 k i ∧ w'.2 k i = w.2 k i
def vy_W (w w' : cm_W) : Prop := ∀ k i, ¬ (k = 0 ∧ (i = 1 ∨ i = 3)) → ¬ (2 ≤ k ∧ k ≤ 39 ∧ k ≠ 3) → k ≠ 47 → k ≠ 106 → w'.1 k i = w.1 k i ∧ w'.2 k i = w.2 k i
theorem vy_ret {w : cm_W} {x : Int32} {k q : Nat} (h : cs_B w k q) : ((Int32.ofInt (-1)) - ((cm_u1 w 0 3 x).1 2 12)) = Int32.ofInt (-1 - (q : Int)) := by
  rw [hs_u1_ne (by omega), ps_ofInt h.2.1]
  rw [Int32.ofInt_sub]
theorem vy_ok {w : cm_W} {T : Nat → Int} {n : Nat} (hT : ∀ j, j < 940 → (w.1 1 j).toInt = T j) (hW : ∀ k, k < 22 → w.2 3 k = Int64.ofNat (tx_rw.getD k 0)) (hn : (w.1 0 1).toInt = (n : Int)) (hn9 : n ≤ 940) (hG : sv_w sg w) : ∃ x w', cm_C 8 47 [.inr (.inr (some 0))] w (some (.inl x), w') ∧ ((∃ k q, ps_all T n = .inl (k, q) ∧ x = Int32.ofInt (-1 - (q : Int)) ∧ (w'.1 0 3).toInt = (k : Int) ∧ vy_V w w') ∨ (∃ l h nm, ps_all T n = .inr (l, h, nm) ∧ x.toInt = (l : Int) ∧ l ≤ 900 ∧ (w'.1 0 3).toInt = 0 ∧ vl_R w' 4 h nm ∧ vy_W w w')) := by
  have h : ∃ o, cm_C (7 + 1) 47 [.inr (.inr (some 0))] w o ∧ (fun o : cm_O => ∃ x w', o = (some (.inl x), w') ∧ ((∃ k q, ps_all T n = .inl (k, q) ∧ x = Int32.ofInt (-1 - (q : Int)) ∧ (w'.1 0 3).toInt = (k : Int) ∧ vy_V w w') ∨ (∃ l h nm, ps_all T n = .inr (l, h, nm) ∧ x.toInt = (l : Int) ∧ l ≤ 900 ∧ (w'.1 0 3).toInt = 0 ∧ vl_R w' 4 h nm ∧ vy_W w w'))) o := by
    refine wk_entry (by rw [xm_6c137978]; exact Nat.le_of_ble_eq_true rfl) ?_
    rw [show cm_ent 47 [.inr (.inr (some 0))] = [some (.inr (.inr (some 0))), none] from by unfold cm_ent; rw [xm_6c137978]; rfl]
    refine wk_aload_n xd_8c1af98e rfl ?_
    refine wk_sipush xd_e235e0e1 ?_
    obtain ⟨wA, hCA, hLA, hfA, hzA, hFA⟩ := ot_ok (w := w) (m := 900) (a := ((Int16.ofInt 900).toInt32)) hT hW hn (by decide) hn9 (by omega)
    obtain ⟨wA2, hCA2, hGA, -⟩ := jot_900 (w := w) (show (((Int16.ofInt 900).toInt32)).toInt = 900 from by decide) hG
    obtain rfl : wA = wA2 := (Prod.mk.inj (cm_det hCA hCA2)).2
    refine wk_call (kd := 0) (i := 117) xd_2fe7da06 rfl (wk_cal (as := [.inr (.inr (some 0)), .inl ((Int16.ofInt 900).toInt32)]) (t := []) xl_14c10ebc rfl xn_e58bdcce xc_824ae56d rfl rfl xv_a03cc3f8 rfl) (cm_C_mono (by omega) hCA) ?_
    refine wk_aload_n xd_faa36120 rfl ?_
    refine wk_getR xf_9566c2f6 xd_ccc8bc8f ?_
    obtain ⟨xB, wB, hCB, hVB, hRB⟩ := cs_all (w := wA) (T := T) (n := n) ⟨hLA, hfA, rfl, rfl, rfl, rfl⟩
    obtain ⟨xB2, wB2, hCB2, hGB, -⟩ := jra_ok0 (w := wA) hGA
    obtain ⟨e1, rfl⟩ := Prod.mk.inj (cm_det hCB hCB2)
    refine wk_call (kd := 0) (i := 120) xd_709aa264 rfl (wk_cal (as := [.inr (.inr (some 32))]) (t := []) xl_76a42e7c rfl xn_61954ca6 xc_693ad5e4 rfl rfl xv_3f82693f rfl) (cm_C_mono (by omega) hCB) ?_
    rcases hRB with ⟨k, q, hA, hxB, hBB⟩ | ⟨l, h, nm, hA, hxB, hl9, hf0, hRv⟩
    · skip
      refine wk_istore_n xd_74f03c1b (by rw [xm_6c137978]; rfl) rfl ?_
      refine wk_aload_n xd_19cb22d2 rfl ?_
      refine wk_aload_n xd_6f2e1bef rfl ?_
      refine wk_getR xf_a47ed913 xd_b832b36a ?_
      refine wk_getI xf_41ac18fa xd_43a83c9e ?_
      refine wk_putI xf_6a7b2ed5 (fun ci => wk_fitI ci) xd_a9e3f212 ?_
      refine wk_iload_n xd_5053481a rfl ?_
      refine wk_iconst xd_c6d68e8e ?_
      refine wk_icmp xd_6e9dfa01 (t := 41) rfl (fun h => absurd (aw_ne_t hxB (show ((Int32.ofInt (-1))).toInt = (-1) from by decide) h) (by omega)) (fun _ => ?_)
      refine wk_iconst xd_4a1044bf ?_
      refine wk_aload_n xd_b6497673 rfl ?_
      refine wk_getR xf_a47ed913 xd_56c5b2fe ?_
      refine wk_getI xf_ef6e0a1d xd_d70a176f ?_
      refine wk_isub xd_5b3e8d0d ?_
      refine wk_ireturn xd_58c66072 xr_63b5dc3e rfl ⟨_, _, rfl, .inl ⟨k, q, hA, vy_ret hBB, ?_, fun c i h1 h2 h3 => ⟨?_, ?_⟩⟩⟩
      · rw [hs_u1_self]
        exact hBB.1
      · rw [hs_u1_ne (by omega), (hVB c i (by omega) h3).1, (hFA c i (by omega) (by omega)).1]
      · show wB.2 c i = _
        rw [(hVB c i (by omega) h3).2, (hFA c i (by omega) (by omega)).2]
    · skip
      refine wk_istore_n xd_74f03c1b (by rw [xm_6c137978]; rfl) rfl ?_
      refine wk_aload_n xd_19cb22d2 rfl ?_
      refine wk_aload_n xd_6f2e1bef rfl ?_
      refine wk_getR xf_a47ed913 xd_b832b36a ?_
      refine wk_getI xf_41ac18fa xd_43a83c9e ?_
      refine wk_putI xf_6a7b2ed5 (fun ci => wk_fitI ci) xd_a9e3f212 ?_
      refine wk_iload_n xd_5053481a rfl ?_
      refine wk_iconst xd_c6d68e8e ?_
      refine wk_icmp xd_6e9dfa01 (t := 41) rfl (fun h28_1 => ?_) (fun h28_1 => ?_)
      · have h28_1 := aw_ne_t (a := ((l : Int) : Int)) (b := ((-1) : Int)) hxB (show ((Int32.ofInt (-1))).toInt = (-1) from by decide) h28_1
        refine wk_aload_n xd_f1b47839 rfl ?_
        refine wk_getR xf_9a45eb64 xd_5589efc9 ?_
        refine wk_aload_n xd_f1e8d9aa rfl ?_
        refine wk_getR xf_d92a5389 xd_6bc44833 ?_
        have hGX : sv_w sg (cm_u1 wB 0 3 (wB.1 2 11)) := sv_w_u1 hGB (by rw [xg_2addefec]; exact sv_in_top _)
        obtain ⟨wD, hCD, hDH, hDN, hDF⟩ := cv_4_18 (w := (cm_u1 wB 0 3 (wB.1 2 11)))
        obtain ⟨wD2, hCD2, hGD, -⟩ := jcv_4_18 (w := (cm_u1 wB 0 3 (wB.1 2 11))) hGX
        obtain rfl : wD = wD2 := (Prod.mk.inj (cm_det hCD hCD2)).2
        refine wk_call (kd := 0) (i := 131) xd_71c90179 rfl (wk_cal (as := [.inr (.inr (some 4)), .inr (.inr (some 18))]) (t := []) xl_62be7d0c rfl xn_000cd9ad xc_6360c095 rfl rfl xv_1cbefe77 rfl) (cm_C_mono (by omega) hCD) ?_
        refine wk_aload_n xd_06742423 rfl ?_
        refine wk_getR xf_35556dee xd_86e6409d ?_
        obtain ⟨wE, hCE, hGE, hFE, hxE⟩ := xs_71_4d1d0ea9 (w := wD) hGD
        refine wk_call (kd := 0) (i := 134) xd_177b571c rfl (wk_cal (as := [.inr (.inr (some 33))]) (t := []) xl_18aa0aa3 rfl xn_9dd39c02 xc_4d179c08 rfl rfl xv_00faf401 rfl) (cm_C_mono (by omega) hCE) ?_
        refine wk_aload_n xd_70285e38 rfl ?_
        refine wk_getR xf_079f417e xd_8ec42dec ?_
        obtain ⟨wS, hCS, hGS, hFS, hxS⟩ := xs_66_6b9ada4d (w := wE) hGE
        refine wk_call (kd := 0) (i := 137) xd_acbc6ee6 rfl (wk_cal (as := [.inr (.inr (some 106))]) (t := []) xl_b06f42f3 rfl xn_e4af93b7 xc_cac14729 rfl rfl xv_92608cb1 rfl) (cm_C_mono (by omega) hCS) ?_
        refine wk_aload_n xd_5e362c98 rfl ?_
        refine wk_getR xf_c62d31ee xd_4450343b ?_
        obtain ⟨wH, hCH, hGH, hFH, hxH⟩ := xs_53_895c94a4 (w := wS) hGS
        refine wk_call (kd := 0) (i := 140) xd_e16bbe97 rfl (wk_cal (as := [.inr (.inr (some 47))]) (t := []) xl_6391a4ea rfl xn_aadb6e69 xc_b9d9740a rfl rfl xv_919b42ff rfl) (cm_C_mono (by omega) hCH) ?_
        refine wk_iload_n xd_235ff825 rfl ?_
        refine wk_ireturn xd_7347c989 xr_63b5dc3e rfl ⟨_, _, rfl, .inr ⟨l, h, nm, hA, hxB, hl9, ?_, ?_, fun c i h1 h2 h3 h4 => ⟨?_, ?_⟩⟩⟩
        · rw [(hFH 0 3 (by omega)).1, (hFS 0 3 (by omega)).1, (hFE 0 3 (by omega)).1, (hDF 0 3 (by omega)).1, hs_u1_self]
          exact hf0
        · refine vl_R_fr (w := wS) (fun k i a b => hFH k i (by omega)) (vl_R_fr (w := wE) (fun k i a b => hFS k i (by omega)) (vl_R_fr (w := wD) (fun k i a b => hFE k i (by omega)) (vl_R_eq hDH hDN (vl_R_fr (w := wB) (fun k i a b => ⟨hs_u1_ne (by omega), rfl⟩) hRv))))
        · rw [(hFH c i (by omega)).1, (hFS c i (by omega)).1, (hFE c i (by omega)).1, (hDF c i (by omega)).1, hs_u1_ne (by omega), (hVB c i (by omega) (by omega)).1, (hFA c i (by omega) (by omega)).1]
        · rw [(hFH c i (by omega)).2, (hFS c i (by omega)).2, (hFE c i (by omega)).2, (hDF c i (by omega)).2]
          show wB.2 c i = _
          rw [(hVB c i (by omega) (by omega)).2, (hFA c i (by omega) (by omega)).2]
      · have h28_1 := aw_ne_f (a := ((l : Int) : Int)) (b := ((-1) : Int)) hxB (show ((Int32.ofInt (-1))).toInt = (-1) from by decide) h28_1
        exfalso
        omega
  obtain ⟨o, hC, x, w', rfl, a⟩ := h
  exact ⟨x, w', hC, a⟩

set_option maxRecDepth 100000 in
theorem xv_fcc4fdb9 : cm_rcv 232 [.inr (.inr (some 4))] = true := by decide +kernel
/-! ## the class's sentence, exactly (wip/p22/gen_ss.py) -/
def ss_V (w w' : cm_W) : Prop := ∀ k i, ¬ (k = 2 ∧ 4 ≤ i ∧ i ≤ 12) → ¬ (18 ≤ k ∧ k ≤ 32) → ¬ (111 ≤ k ∧ k ≤ 115) → w'.1 k i = w.1 k i ∧ w'.2 k i = w.2 k i
theorem ss_V_rf (w : cm_W) : ss_V w w := fun _ _ _ _ _ => ⟨rfl, rfl⟩
theorem ss_V_tr {w w1 w2 : cm_W} (h1 : ss_V w w1) (h2 : ss_V w1 w2) : ss_V w w2 := fun k i a b c => ⟨(h2 k i a b c).1.trans (h1 k i a b c).1, (h2 k i a b c).2.trans (h1 k i a b c).2⟩
theorem ss_V_c {w w' : cm_W} (h : cs_V w w') : ss_V w w' := fun k i a b _ => h k i a b
theorem ss_V_u1 {w : cm_W} {c i : Nat} {x : Int32} (h1 : 111 ≤ c) (h2 : c ≤ 115) : ss_V w (cm_u1 w c i x) := fun k j _ _ a => ⟨hs_u1_ne (by omega), rfl⟩
theorem ss_V_R {w w' : cm_W} {h : Nat → Int} {nm : Nat → Nat} (hV : ss_V w w') (hR : vl_R w 4 h nm) : vl_R w' 4 h nm := vl_R_f2 (fun k i _ _ => (hV k i (by omega) (by omega) (by omega)).1) (fun k i _ _ => (hV k i (by omega) (by omega) (by omega)).2) hR
/-- no fault stands; so many ONES and steps -/
def ss_M (w : cm_W) (T : Nat → Int) (n m p o st : Nat) : Prop := rd_L w T n m p ∧ (w.1 2 11).toInt = 0 ∧ (w.1 111 0).toInt = o ∧ (w.1 111 1).toInt = st
theorem ss_c {w : cm_W} {T : Nat → Int} {n m p o st : Nat} (h : ss_M w T n m p o st) : cs_M w T n m p (vl_H w 18) (vl_N w 18) (w.1 32 2).toInt (w.1 32 3).toInt := ⟨h.1, h.2.1, rfl, rfl, rfl, rfl⟩
theorem ss_of {w w' : cm_W} {T : Nat → Int} {n m p q o st : Nat} {f : Nat → Int} {g : Nat → Int64} {a b : Int} (h : ss_M w T n m p o st) (hV : cs_V w w') (hM : cs_M w' T n m q f g a b) : ss_M w' T n m q o st := ⟨hM.1, hM.2.1, by rw [(hV 111 0 (by omega) (by omega)).1]; exact h.2.2.1, by rw [(hV 111 1 (by omega) (by omega)).1]; exact h.2.2.2⟩
theorem ss_fr {w w' : cm_W} {T : Nat → Int} {n m p o st o' st' : Nat} (h : ss_M w T n m p o st) (hF : ∀ k i, ¬ (111 ≤ k ∧ k ≤ 115) → w'.1 k i = w.1 k i ∧ w'.2 k i = w.2 k i) (e1 : (w'.1 111 0).toInt = o') (e2 : (w'.1 111 1).toInt = st') : ss_M w' T n m p o' st' := ⟨rd_L_fr (fun k i hk => hF k i (by omega)) h.1, by rw [(hF 2 11 (by omega)).1]; exact h.2.1, e1, e2⟩
theorem ss_kw {w : cm_W} {t : sp_T} (h : rd_C w t) (k : Nat) (hk : k < 22) : ((w.1 2 8).toInt = k ∧ ps_wd t k) ∨ ((w.1 2 8).toInt ≠ k ∧ ¬ ps_wd t k) := by
  obtain ⟨_, h⟩ := h
  rcases h with ⟨a, b, c, _⟩ | ⟨a, b, c, d, e, f⟩ | ⟨a, b, c, d, _⟩ | ⟨a, b, c, d, _⟩ | ⟨a, b, c⟩
  · exact .inr ⟨by omega, fun z => by have := z.1; omega⟩
  · rcases f with ⟨f1, f2⟩ | ⟨j, f1, f2, f3⟩
    · exact .inr ⟨by omega, fun z => f2 k hk z.2.symm⟩
    · by_cases e9 : j = k
      · rw [e9] at f2 f3
        exact .inl ⟨f2, a, f3.symm⟩
      · exact .inr ⟨by omega, ps_wd_ne (k := j) ⟨a, f3.symm⟩ hk f1 (fun z => e9 z.symm)⟩
  · exact .inr ⟨by omega, fun z => by have := z.1; omega⟩
  · exact .inr ⟨by omega, fun z => by have := z.1; omega⟩
  · exact .inr ⟨by omega, fun z => by have := z.1; omega⟩
theorem ss_kwb {w : cm_W} {t : sp_T} (h : rd_C w t) : -1 ≤ (w.1 2 8).toInt ∧ (w.1 2 8).toInt ≤ 21 ∧ (0 ≤ (w.1 2 8).toInt → t.1 = 1) := by
  obtain ⟨_, h⟩ := h
  rcases h with ⟨a, b, c, _⟩ | ⟨a, b, c, d, e, f⟩ | ⟨a, b, c, d, _⟩ | ⟨a, b, c, d, _⟩ | ⟨a, b, c⟩
  · exact ⟨by omega, by omega, by omega⟩
  · rcases f with ⟨f1, f2⟩ | ⟨j, f1, f2, f3⟩
    · exact ⟨by omega, by omega, by omega⟩
    · exact ⟨by omega, by omega, by omega⟩
  · exact ⟨by omega, by omega, by omega⟩
  · exact ⟨by omega, by omega, by omega⟩
  · exact ⟨by omega, by omega, by omega⟩
/-- how the token begins a ONE, by the keyword -/
theorem ss_beg {w : cm_W} {t : sp_T} (h : rd_C w t) : (t.1 = 3 ∧ t.2.2.2.1 = 40 ∧ (w.1 2 8).toInt = -1) ∨ (∃ k : Nat, 13 ≤ k ∧ k ≤ 21 ∧ (w.1 2 8).toInt = k ∧ ps_wd t k) ∨ (sp_no t ∧ (w.1 2 8).toInt < 13) := by
  have hb := ss_kwb h
  by_cases h0 : t.1 = 3 ∧ t.2.2.2.1 = 40
  · exact .inl ⟨h0.1, h0.2, by omega⟩
  · by_cases h1 : (w.1 2 8).toInt < 13
    · refine .inr (.inr ⟨⟨h0, fun k a b z => ?_⟩, h1⟩)
      rcases ss_kw h k (by omega) with ⟨c, _⟩ | ⟨_, c⟩
      · omega
      · exact c z
    · obtain ⟨k, hk⟩ : ∃ k : Nat, (w.1 2 8).toInt = k := ⟨(w.1 2 8).toInt.toNat, by omega⟩
      rcases ss_kw h k (by omega) with ⟨_, c⟩ | ⟨c, _⟩
      · exact .inr (.inl ⟨k, by omega, by omega, hk, c⟩)
      · exact absurd hk c
def ss_P (T : Nat → Int) (n m : Nat) (r : sp_R) (o st : Nat) (x : Int32) (w : cm_W) : Prop := match r with
  | .inl e => x.toInt = 0 ∧ cs_B w e.1 e.2
  | .inr z => x.toInt = 1 ∧ o < z.1 ∧ z.1 ≤ 20 ∧ ∃ st' : Nat, ss_M w T n m z.2 z.1 st' ∧ st' + 1 + 2 * o ≤ st + 2 * z.1
theorem ss_P_e {T : Nat → Int} {n m : Nat} {r : sp_R} {o st k q : Nat} {x : Int32} {w : cm_W} (hr : r = .inl (k, q)) (hx : x.toInt = 0) (hB : cs_B w k q) : ss_P T n m r o st x w := by
  rw [hr]
  exact ⟨hx, hB⟩
theorem ss_P_y {T : Nat → Int} {n m : Nat} {r : sp_R} {o st o' p' st' : Nat} {x : Int32} {w : cm_W} (hr : r = .inr (o', p')) (hx : x.toInt = 1) (h1 : o < o') (h2 : o' ≤ 20) (hM : ss_M w T n m p' o' st') (hst : st' + 1 + 2 * o ≤ st + 2 * o') : ss_P T n m r o st x w := by
  rw [hr]
  exact ⟨hx, h1, h2, st', hM, hst⟩
theorem ss_P_bit {T : Nat → Int} {n m : Nat} {r : sp_R} {o st : Nat} {x : Int32} {w : cm_W} (h : ss_P T n m r o st x w) : ia_nar .boolean (ia_E x) = true := by
  unfold ss_P at h
  split at h
  · exact aw_bit (by omega) (by omega)
  · exact aw_bit (by omega) (by omega)
theorem ss_P_c {T : Nat → Int} {n m : Nat} {r : sp_R} {o st : Nat} {x : Int32} {w : cm_W} (h : ss_P T n m r o st x w) : (∃ k q, r = .inl (k, q) ∧ x.toInt = 0 ∧ cs_B w k q) ∨ (∃ o' p' st', r = .inr (o', p') ∧ x.toInt = 1 ∧ o < o' ∧ o' ≤ 20 ∧ ss_M w T n m p' o' st' ∧ st' + 1 + 2 * o ≤ st + 2 * o') := by
  match r, h with
  | .inl (k, q), h => exact .inl ⟨k, q, rfl, h.1, h.2⟩
  | .inr (o', p'), h =>
    obtain ⟨a, b, c, st', d, e⟩ := h
    exact .inr ⟨o', p', st', rfl, a, b, c, d, e⟩
theorem cs_look4_0 {w : cm_W} {T : Nat → Int} {n m p : Nat} {f : Nat → Int} {g : Nat → Int64} {a0 b0 : Int} {h : Nat → Int} {nm : Nat → Nat} {z : Int32} (hz : z.toInt = 0) (hM : cs_M w T n m p f g a0 b0) (hR : vl_R w 4 h nm) : ∃ x w', cm_C 3 186 [.inr (.inr (some 2)), .inr (.inr (some 4)), .inl z] w (some (.inl x), w') ∧ cs_V w w' ∧ ((∃ i, ps_look T n m nm 0 (h 0).toNat p = .inr i ∧ x.toInt = i ∧ w' = w) ∨ (∃ k q, ps_look T n m nm 0 (h 0).toNat p = .inl (k, q) ∧ x.toInt = -1 ∧ cs_B w' k q ∧ cs_F w w')) := by
  have h9 : ∃ oo, cm_C (2 + 1) 186 [.inr (.inr (some 2)), .inr (.inr (some 4)), .inl z] w oo ∧ (fun oo : cm_O => ∃ x w', oo = (some (.inl x), w') ∧ cs_V w w' ∧ ((∃ i, ps_look T n m nm 0 (h 0).toNat p = .inr i ∧ x.toInt = i ∧ w' = w) ∨ (∃ k q, ps_look T n m nm 0 (h 0).toNat p = .inl (k, q) ∧ x.toInt = -1 ∧ cs_B w' k q ∧ cs_F w w'))) oo := by
    refine wk_entry (by rw [xm_2fb3c1ad]; exact Nat.le_of_ble_eq_true rfl) ?_
    rw [show cm_ent 186 [.inr (.inr (some 2)), .inr (.inr (some 4)), .inl z] = [some (.inr (.inr (some 2))), some (.inr (.inr (some 4))), some (.inl z), none] from by unfold cm_ent; rw [xm_2fb3c1ad]; rfl]
    rcases rd_C_wat hM.1.2.1 with ⟨hni, hkd, hkw, hw, hwl⟩ | ⟨hni, hkd⟩
    · skip
      refine wk_aload_n xd_c5a7e4b1 rfl ?_
      obtain ⟨xn, hCn, hxn⟩ := in_ok (w := w)
      refine wk_call (kd := 0) (i := 91) xd_5bdb9288 rfl (wk_cal (as := [.inr (.inr (some 2))]) (t := []) xl_645059cf rfl xn_64c4bd76 xc_dd7787d2 rfl rfl xv_4dda2033 rfl) (cm_C_mono (by omega) hCn) ?_
      refine wk_if xd_28d10cae (t := 15) rfl (fun h4_0 => ?_) (fun h4_0 => ?_)
      · have h4_0 := aw_ne_t (a := ((xn).toInt : Int)) (b := (0 : Int)) rfl hb_z h4_0
        refine wk_aload_n xd_92849b42 rfl ?_
        refine wk_iload_n xd_f9c20bc2 rfl ?_
        refine wk_aload_n xd_4272611b rfl ?_
        refine aw_getL xf_95dbfd97 xd_9e6b0fb0 ?_
        obtain ⟨xf, hCf, hxf⟩ := no_4_0 (w := w) (z := z) hz (vl_cnt hR).1 (vl_n0 hR).1 (vl_n0 hR).2 hw hwl
        have bf := tx_find_b (nm := nm) (b := 0) (k := (h 0).toNat) (c := (tx_tk T n m p).2.2.2.2)
        refine wk_call (kd := 0) (i := 94) xd_a90cfa53 rfl (wk_cal (as := [.inr (.inr (some 4)), .inl z, .inr (.inl (w.2 2 7))]) (t := []) xl_591f362b rfl xn_63c5ea14 xc_fd3f0af7 rfl rfl xv_fcc4fdb9 rfl) (cm_C_mono (by omega) hCf) ?_
        refine wk_istore_n xd_0005d670 (by rw [xm_2fb3c1ad]; rfl) rfl ?_
        refine wk_iload_n xd_ea59b267 rfl ?_
        refine wk_iconst xd_06d61f49 ?_
        refine wk_icmp xd_2963720a (t := 36) rfl (fun h27_1 => ?_) (fun h27_1 => ?_)
        · have h27_1 := aw_ne_t (a := ((tx_find nm 0 (h 0).toNat (tx_tk T n m p).2.2.2.2) : Int)) (b := ((-1) : Int)) hxf (show ((Int32.ofInt (-1))).toInt = (-1) from by decide) h27_1
          refine wk_aload_n xd_003a47c0 rfl ?_
          obtain ⟨xg3_, hCg3_, eg3_⟩ := cs_good hM
          refine wk_call (kd := 0) (i := 87) xd_a255f1c7 rfl (wk_cal (as := [.inr (.inr (some 2))]) (t := []) xl_e5b94099 rfl xn_59a494c6 xc_7b6444b6 rfl rfl xv_433dc8e2 rfl) (cm_C_mono (by omega) hCg3_) ?_
          refine wk_if xd_33b9d04a (t := 47) rfl (fun h => absurd (aw_eq_t eg3_ hb_z h) (by omega)) (fun _ => ?_)
          refine wk_iload_n xd_b7ae924d rfl ?_
          refine wk_goto xd_591314a7 (t := 48) rfl ?_
          refine wk_ireturn xd_a96e1be2 xr_f855882b rfl ⟨_, _, rfl, (cs_V_rf w), .inl ⟨_, ?_, hxf, rfl⟩⟩
          exact (if_pos hni).trans (if_pos (by omega))
        · have h27_1 := aw_ne_f (a := ((tx_find nm 0 (h 0).toNat (tx_tk T n m p).2.2.2.2) : Int)) (b := ((-1) : Int)) hxf (show ((Int32.ofInt (-1))).toInt = (-1) from by decide) h27_1
          refine wk_aload_n xd_edf035ba rfl ?_
          refine wk_iconst xd_e00fbab9 ?_
          obtain ⟨wr5_, hCr5_, hVr5_, hBr5_, hFr5_⟩ := cs_ref (k := (Int32.ofInt 3)) (c := 3) hM (by decide) (by decide)
          have hVr5_a := cs_V_tr (cs_V_rf w) hVr5_
          refine wk_call (kd := 0) (i := 80) xd_dd9642ff rfl (wk_cal (as := [.inr (.inr (some 2)), .inl (Int32.ofInt 3)]) (t := []) xl_2de59c4d rfl xn_b5464d7d xc_49a83f99 rfl rfl xv_780065b9 rfl) (cm_C_mono (by omega) hCr5_) ?_
          refine wk_pop xd_62568717 ?_
          refine wk_aload_n xd_003a47c0 rfl ?_
          obtain ⟨xg6_, hCg6_, eg6_⟩ := cs_goodB hBr5_
          refine wk_call (kd := 0) (i := 87) xd_a255f1c7 rfl (wk_cal (as := [.inr (.inr (some 2))]) (t := []) xl_e5b94099 rfl xn_59a494c6 xc_7b6444b6 rfl rfl xv_433dc8e2 rfl) (cm_C_mono (by omega) hCg6_) ?_
          refine wk_if xd_33b9d04a (t := 47) rfl (fun _ => ?_) (fun h => absurd (aw_eq_f eg6_ hb_z h) (by omega))
          refine wk_iconst xd_9c8352f6 ?_
          refine wk_ireturn xd_a96e1be2 xr_f855882b rfl ⟨_, _, rfl, hVr5_a, .inr ⟨3, _, ?_, by decide, hBr5_, hFr5_⟩⟩
          exact (if_pos hni).trans (if_neg (by omega))
      · have h4_0 := aw_ne_f (a := ((xn).toInt : Int)) (b := (0 : Int)) rfl hb_z h4_0
        exfalso
        omega
    · skip
      refine wk_aload_n xd_c5a7e4b1 rfl ?_
      obtain ⟨xn, hCn, hxn⟩ := in_ok (w := w)
      refine wk_call (kd := 0) (i := 91) xd_5bdb9288 rfl (wk_cal (as := [.inr (.inr (some 2))]) (t := []) xl_645059cf rfl xn_64c4bd76 xc_dd7787d2 rfl rfl xv_4dda2033 rfl) (cm_C_mono (by omega) hCn) ?_
      refine wk_if xd_28d10cae (t := 15) rfl (fun h4_7 => ?_) (fun h4_7 => ?_)
      · have h4_7 := aw_ne_t (a := ((xn).toInt : Int)) (b := (0 : Int)) rfl hb_z h4_7
        exfalso
        omega
      · have h4_7 := aw_ne_f (a := ((xn).toInt : Int)) (b := (0 : Int)) rfl hb_z h4_7
        refine wk_aload_n xd_b31e7c1f rfl ?_
        refine wk_iconst xd_61cd3e21 ?_
        obtain ⟨wr9_, hCr9_, hVr9_, hBr9_, hFr9_⟩ := cs_ref (k := (Int32.ofInt 1)) (c := 1) hM (by decide) (by decide)
        have hVr9_a := cs_V_tr (cs_V_rf w) hVr9_
        refine wk_call (kd := 0) (i := 80) xd_9591769c rfl (wk_cal (as := [.inr (.inr (some 2)), .inl (Int32.ofInt 1)]) (t := []) xl_2de59c4d rfl xn_b5464d7d xc_49a83f99 rfl rfl xv_780065b9 rfl) (cm_C_mono (by omega) hCr9_) ?_
        refine wk_pop xd_471090df ?_
        refine wk_iconst xd_aab72844 ?_
        refine wk_ireturn xd_d5ece1ef xr_f855882b rfl ⟨_, _, rfl, hVr9_a, .inr ⟨1, _, ?_, by decide, hBr9_, hFr9_⟩⟩
        exact if_neg hni
  obtain ⟨oo, hC, x, w', rfl, a⟩ := h9
  exact ⟨x, w', hC, a⟩
theorem cs_look4_1 {w : cm_W} {T : Nat → Int} {n m p : Nat} {f : Nat → Int} {g : Nat → Int64} {a0 b0 : Int} {h : Nat → Int} {nm : Nat → Nat} {z : Int32} (hz : z.toInt = 1) (hM : cs_M w T n m p f g a0 b0) (hR : vl_R w 4 h nm) : ∃ x w', cm_C 3 186 [.inr (.inr (some 2)), .inr (.inr (some 4)), .inl z] w (some (.inl x), w') ∧ cs_V w w' ∧ ((∃ i, ps_look T n m nm 6 (h 1).toNat p = .inr i ∧ x.toInt = i ∧ w' = w) ∨ (∃ k q, ps_look T n m nm 6 (h 1).toNat p = .inl (k, q) ∧ x.toInt = -1 ∧ cs_B w' k q ∧ cs_F w w')) := by
  have h9 : ∃ oo, cm_C (2 + 1) 186 [.inr (.inr (some 2)), .inr (.inr (some 4)), .inl z] w oo ∧ (fun oo : cm_O => ∃ x w', oo = (some (.inl x), w') ∧ cs_V w w' ∧ ((∃ i, ps_look T n m nm 6 (h 1).toNat p = .inr i ∧ x.toInt = i ∧ w' = w) ∨ (∃ k q, ps_look T n m nm 6 (h 1).toNat p = .inl (k, q) ∧ x.toInt = -1 ∧ cs_B w' k q ∧ cs_F w w'))) oo := by
    refine wk_entry (by rw [xm_2fb3c1ad]; exact Nat.le_of_ble_eq_true rfl) ?_
    rw [show cm_ent 186 [.inr (.inr (some 2)), .inr (.inr (some 4)), .inl z] = [some (.inr (.inr (some 2))), some (.inr (.inr (some 4))), some (.inl z), none] from by unfold cm_ent; rw [xm_2fb3c1ad]; rfl]
    rcases rd_C_wat hM.1.2.1 with ⟨hni, hkd, hkw, hw, hwl⟩ | ⟨hni, hkd⟩
    · skip
      refine wk_aload_n xd_c5a7e4b1 rfl ?_
      obtain ⟨xn, hCn, hxn⟩ := in_ok (w := w)
      refine wk_call (kd := 0) (i := 91) xd_5bdb9288 rfl (wk_cal (as := [.inr (.inr (some 2))]) (t := []) xl_645059cf rfl xn_64c4bd76 xc_dd7787d2 rfl rfl xv_4dda2033 rfl) (cm_C_mono (by omega) hCn) ?_
      refine wk_if xd_28d10cae (t := 15) rfl (fun h4_0 => ?_) (fun h4_0 => ?_)
      · have h4_0 := aw_ne_t (a := ((xn).toInt : Int)) (b := (0 : Int)) rfl hb_z h4_0
        refine wk_aload_n xd_92849b42 rfl ?_
        refine wk_iload_n xd_f9c20bc2 rfl ?_
        refine wk_aload_n xd_4272611b rfl ?_
        refine aw_getL xf_95dbfd97 xd_9e6b0fb0 ?_
        obtain ⟨xf, hCf, hxf⟩ := no_4_1 (w := w) (z := z) hz (vl_cnt hR).2.1 (vl_n1 hR).1 (vl_n1 hR).2 hw hwl
        have bf := tx_find_b (nm := nm) (b := 6) (k := (h 1).toNat) (c := (tx_tk T n m p).2.2.2.2)
        refine wk_call (kd := 0) (i := 94) xd_a90cfa53 rfl (wk_cal (as := [.inr (.inr (some 4)), .inl z, .inr (.inl (w.2 2 7))]) (t := []) xl_591f362b rfl xn_63c5ea14 xc_fd3f0af7 rfl rfl xv_fcc4fdb9 rfl) (cm_C_mono (by omega) hCf) ?_
        refine wk_istore_n xd_0005d670 (by rw [xm_2fb3c1ad]; rfl) rfl ?_
        refine wk_iload_n xd_ea59b267 rfl ?_
        refine wk_iconst xd_06d61f49 ?_
        refine wk_icmp xd_2963720a (t := 36) rfl (fun h27_1 => ?_) (fun h27_1 => ?_)
        · have h27_1 := aw_ne_t (a := ((tx_find nm 6 (h 1).toNat (tx_tk T n m p).2.2.2.2) : Int)) (b := ((-1) : Int)) hxf (show ((Int32.ofInt (-1))).toInt = (-1) from by decide) h27_1
          refine wk_aload_n xd_003a47c0 rfl ?_
          obtain ⟨xg3_, hCg3_, eg3_⟩ := cs_good hM
          refine wk_call (kd := 0) (i := 87) xd_a255f1c7 rfl (wk_cal (as := [.inr (.inr (some 2))]) (t := []) xl_e5b94099 rfl xn_59a494c6 xc_7b6444b6 rfl rfl xv_433dc8e2 rfl) (cm_C_mono (by omega) hCg3_) ?_
          refine wk_if xd_33b9d04a (t := 47) rfl (fun h => absurd (aw_eq_t eg3_ hb_z h) (by omega)) (fun _ => ?_)
          refine wk_iload_n xd_b7ae924d rfl ?_
          refine wk_goto xd_591314a7 (t := 48) rfl ?_
          refine wk_ireturn xd_a96e1be2 xr_f855882b rfl ⟨_, _, rfl, (cs_V_rf w), .inl ⟨_, ?_, hxf, rfl⟩⟩
          exact (if_pos hni).trans (if_pos (by omega))
        · have h27_1 := aw_ne_f (a := ((tx_find nm 6 (h 1).toNat (tx_tk T n m p).2.2.2.2) : Int)) (b := ((-1) : Int)) hxf (show ((Int32.ofInt (-1))).toInt = (-1) from by decide) h27_1
          refine wk_aload_n xd_edf035ba rfl ?_
          refine wk_iconst xd_e00fbab9 ?_
          obtain ⟨wr5_, hCr5_, hVr5_, hBr5_, hFr5_⟩ := cs_ref (k := (Int32.ofInt 3)) (c := 3) hM (by decide) (by decide)
          have hVr5_a := cs_V_tr (cs_V_rf w) hVr5_
          refine wk_call (kd := 0) (i := 80) xd_dd9642ff rfl (wk_cal (as := [.inr (.inr (some 2)), .inl (Int32.ofInt 3)]) (t := []) xl_2de59c4d rfl xn_b5464d7d xc_49a83f99 rfl rfl xv_780065b9 rfl) (cm_C_mono (by omega) hCr5_) ?_
          refine wk_pop xd_62568717 ?_
          refine wk_aload_n xd_003a47c0 rfl ?_
          obtain ⟨xg6_, hCg6_, eg6_⟩ := cs_goodB hBr5_
          refine wk_call (kd := 0) (i := 87) xd_a255f1c7 rfl (wk_cal (as := [.inr (.inr (some 2))]) (t := []) xl_e5b94099 rfl xn_59a494c6 xc_7b6444b6 rfl rfl xv_433dc8e2 rfl) (cm_C_mono (by omega) hCg6_) ?_
          refine wk_if xd_33b9d04a (t := 47) rfl (fun _ => ?_) (fun h => absurd (aw_eq_f eg6_ hb_z h) (by omega))
          refine wk_iconst xd_9c8352f6 ?_
          refine wk_ireturn xd_a96e1be2 xr_f855882b rfl ⟨_, _, rfl, hVr5_a, .inr ⟨3, _, ?_, by decide, hBr5_, hFr5_⟩⟩
          exact (if_pos hni).trans (if_neg (by omega))
      · have h4_0 := aw_ne_f (a := ((xn).toInt : Int)) (b := (0 : Int)) rfl hb_z h4_0
        exfalso
        omega
    · skip
      refine wk_aload_n xd_c5a7e4b1 rfl ?_
      obtain ⟨xn, hCn, hxn⟩ := in_ok (w := w)
      refine wk_call (kd := 0) (i := 91) xd_5bdb9288 rfl (wk_cal (as := [.inr (.inr (some 2))]) (t := []) xl_645059cf rfl xn_64c4bd76 xc_dd7787d2 rfl rfl xv_4dda2033 rfl) (cm_C_mono (by omega) hCn) ?_
      refine wk_if xd_28d10cae (t := 15) rfl (fun h4_7 => ?_) (fun h4_7 => ?_)
      · have h4_7 := aw_ne_t (a := ((xn).toInt : Int)) (b := (0 : Int)) rfl hb_z h4_7
        exfalso
        omega
      · have h4_7 := aw_ne_f (a := ((xn).toInt : Int)) (b := (0 : Int)) rfl hb_z h4_7
        refine wk_aload_n xd_b31e7c1f rfl ?_
        refine wk_iconst xd_61cd3e21 ?_
        obtain ⟨wr9_, hCr9_, hVr9_, hBr9_, hFr9_⟩ := cs_ref (k := (Int32.ofInt 1)) (c := 1) hM (by decide) (by decide)
        have hVr9_a := cs_V_tr (cs_V_rf w) hVr9_
        refine wk_call (kd := 0) (i := 80) xd_9591769c rfl (wk_cal (as := [.inr (.inr (some 2)), .inl (Int32.ofInt 1)]) (t := []) xl_2de59c4d rfl xn_b5464d7d xc_49a83f99 rfl rfl xv_780065b9 rfl) (cm_C_mono (by omega) hCr9_) ?_
        refine wk_pop xd_471090df ?_
        refine wk_iconst xd_aab72844 ?_
        refine wk_ireturn xd_d5ece1ef xr_f855882b rfl ⟨_, _, rfl, hVr9_a, .inr ⟨1, _, ?_, by decide, hBr9_, hFr9_⟩⟩
        exact if_neg hni
  obtain ⟨oo, hC, x, w', rfl, a⟩ := h9
  exact ⟨x, w', hC, a⟩
theorem cs_look4_2 {w : cm_W} {T : Nat → Int} {n m p : Nat} {f : Nat → Int} {g : Nat → Int64} {a0 b0 : Int} {h : Nat → Int} {nm : Nat → Nat} {z : Int32} (hz : z.toInt = 2) (hM : cs_M w T n m p f g a0 b0) (hR : vl_R w 4 h nm) : ∃ x w', cm_C 3 186 [.inr (.inr (some 2)), .inr (.inr (some 4)), .inl z] w (some (.inl x), w') ∧ cs_V w w' ∧ ((∃ i, ps_look T n m nm 10 (h 2).toNat p = .inr i ∧ x.toInt = i ∧ w' = w) ∨ (∃ k q, ps_look T n m nm 10 (h 2).toNat p = .inl (k, q) ∧ x.toInt = -1 ∧ cs_B w' k q ∧ cs_F w w')) := by
  have h9 : ∃ oo, cm_C (2 + 1) 186 [.inr (.inr (some 2)), .inr (.inr (some 4)), .inl z] w oo ∧ (fun oo : cm_O => ∃ x w', oo = (some (.inl x), w') ∧ cs_V w w' ∧ ((∃ i, ps_look T n m nm 10 (h 2).toNat p = .inr i ∧ x.toInt = i ∧ w' = w) ∨ (∃ k q, ps_look T n m nm 10 (h 2).toNat p = .inl (k, q) ∧ x.toInt = -1 ∧ cs_B w' k q ∧ cs_F w w'))) oo := by
    refine wk_entry (by rw [xm_2fb3c1ad]; exact Nat.le_of_ble_eq_true rfl) ?_
    rw [show cm_ent 186 [.inr (.inr (some 2)), .inr (.inr (some 4)), .inl z] = [some (.inr (.inr (some 2))), some (.inr (.inr (some 4))), some (.inl z), none] from by unfold cm_ent; rw [xm_2fb3c1ad]; rfl]
    rcases rd_C_wat hM.1.2.1 with ⟨hni, hkd, hkw, hw, hwl⟩ | ⟨hni, hkd⟩
    · skip
      refine wk_aload_n xd_c5a7e4b1 rfl ?_
      obtain ⟨xn, hCn, hxn⟩ := in_ok (w := w)
      refine wk_call (kd := 0) (i := 91) xd_5bdb9288 rfl (wk_cal (as := [.inr (.inr (some 2))]) (t := []) xl_645059cf rfl xn_64c4bd76 xc_dd7787d2 rfl rfl xv_4dda2033 rfl) (cm_C_mono (by omega) hCn) ?_
      refine wk_if xd_28d10cae (t := 15) rfl (fun h4_0 => ?_) (fun h4_0 => ?_)
      · have h4_0 := aw_ne_t (a := ((xn).toInt : Int)) (b := (0 : Int)) rfl hb_z h4_0
        refine wk_aload_n xd_92849b42 rfl ?_
        refine wk_iload_n xd_f9c20bc2 rfl ?_
        refine wk_aload_n xd_4272611b rfl ?_
        refine aw_getL xf_95dbfd97 xd_9e6b0fb0 ?_
        obtain ⟨xf, hCf, hxf⟩ := no_4_2 (w := w) (z := z) hz (vl_cnt hR).2.2.1 (vl_n2 hR).1 (vl_n2 hR).2 hw hwl
        have bf := tx_find_b (nm := nm) (b := 10) (k := (h 2).toNat) (c := (tx_tk T n m p).2.2.2.2)
        refine wk_call (kd := 0) (i := 94) xd_a90cfa53 rfl (wk_cal (as := [.inr (.inr (some 4)), .inl z, .inr (.inl (w.2 2 7))]) (t := []) xl_591f362b rfl xn_63c5ea14 xc_fd3f0af7 rfl rfl xv_fcc4fdb9 rfl) (cm_C_mono (by omega) hCf) ?_
        refine wk_istore_n xd_0005d670 (by rw [xm_2fb3c1ad]; rfl) rfl ?_
        refine wk_iload_n xd_ea59b267 rfl ?_
        refine wk_iconst xd_06d61f49 ?_
        refine wk_icmp xd_2963720a (t := 36) rfl (fun h27_1 => ?_) (fun h27_1 => ?_)
        · have h27_1 := aw_ne_t (a := ((tx_find nm 10 (h 2).toNat (tx_tk T n m p).2.2.2.2) : Int)) (b := ((-1) : Int)) hxf (show ((Int32.ofInt (-1))).toInt = (-1) from by decide) h27_1
          refine wk_aload_n xd_003a47c0 rfl ?_
          obtain ⟨xg3_, hCg3_, eg3_⟩ := cs_good hM
          refine wk_call (kd := 0) (i := 87) xd_a255f1c7 rfl (wk_cal (as := [.inr (.inr (some 2))]) (t := []) xl_e5b94099 rfl xn_59a494c6 xc_7b6444b6 rfl rfl xv_433dc8e2 rfl) (cm_C_mono (by omega) hCg3_) ?_
          refine wk_if xd_33b9d04a (t := 47) rfl (fun h => absurd (aw_eq_t eg3_ hb_z h) (by omega)) (fun _ => ?_)
          refine wk_iload_n xd_b7ae924d rfl ?_
          refine wk_goto xd_591314a7 (t := 48) rfl ?_
          refine wk_ireturn xd_a96e1be2 xr_f855882b rfl ⟨_, _, rfl, (cs_V_rf w), .inl ⟨_, ?_, hxf, rfl⟩⟩
          exact (if_pos hni).trans (if_pos (by omega))
        · have h27_1 := aw_ne_f (a := ((tx_find nm 10 (h 2).toNat (tx_tk T n m p).2.2.2.2) : Int)) (b := ((-1) : Int)) hxf (show ((Int32.ofInt (-1))).toInt = (-1) from by decide) h27_1
          refine wk_aload_n xd_edf035ba rfl ?_
          refine wk_iconst xd_e00fbab9 ?_
          obtain ⟨wr5_, hCr5_, hVr5_, hBr5_, hFr5_⟩ := cs_ref (k := (Int32.ofInt 3)) (c := 3) hM (by decide) (by decide)
          have hVr5_a := cs_V_tr (cs_V_rf w) hVr5_
          refine wk_call (kd := 0) (i := 80) xd_dd9642ff rfl (wk_cal (as := [.inr (.inr (some 2)), .inl (Int32.ofInt 3)]) (t := []) xl_2de59c4d rfl xn_b5464d7d xc_49a83f99 rfl rfl xv_780065b9 rfl) (cm_C_mono (by omega) hCr5_) ?_
          refine wk_pop xd_62568717 ?_
          refine wk_aload_n xd_003a47c0 rfl ?_
          obtain ⟨xg6_, hCg6_, eg6_⟩ := cs_goodB hBr5_
          refine wk_call (kd := 0) (i := 87) xd_a255f1c7 rfl (wk_cal (as := [.inr (.inr (some 2))]) (t := []) xl_e5b94099 rfl xn_59a494c6 xc_7b6444b6 rfl rfl xv_433dc8e2 rfl) (cm_C_mono (by omega) hCg6_) ?_
          refine wk_if xd_33b9d04a (t := 47) rfl (fun _ => ?_) (fun h => absurd (aw_eq_f eg6_ hb_z h) (by omega))
          refine wk_iconst xd_9c8352f6 ?_
          refine wk_ireturn xd_a96e1be2 xr_f855882b rfl ⟨_, _, rfl, hVr5_a, .inr ⟨3, _, ?_, by decide, hBr5_, hFr5_⟩⟩
          exact (if_pos hni).trans (if_neg (by omega))
      · have h4_0 := aw_ne_f (a := ((xn).toInt : Int)) (b := (0 : Int)) rfl hb_z h4_0
        exfalso
        omega
    · skip
      refine wk_aload_n xd_c5a7e4b1 rfl ?_
      obtain ⟨xn, hCn, hxn⟩ := in_ok (w := w)
      refine wk_call (kd := 0) (i := 91) xd_5bdb9288 rfl (wk_cal (as := [.inr (.inr (some 2))]) (t := []) xl_645059cf rfl xn_64c4bd76 xc_dd7787d2 rfl rfl xv_4dda2033 rfl) (cm_C_mono (by omega) hCn) ?_
      refine wk_if xd_28d10cae (t := 15) rfl (fun h4_7 => ?_) (fun h4_7 => ?_)
      · have h4_7 := aw_ne_t (a := ((xn).toInt : Int)) (b := (0 : Int)) rfl hb_z h4_7
        exfalso
        omega
      · have h4_7 := aw_ne_f (a := ((xn).toInt : Int)) (b := (0 : Int)) rfl hb_z h4_7
        refine wk_aload_n xd_b31e7c1f rfl ?_
        refine wk_iconst xd_61cd3e21 ?_
        obtain ⟨wr9_, hCr9_, hVr9_, hBr9_, hFr9_⟩ := cs_ref (k := (Int32.ofInt 1)) (c := 1) hM (by decide) (by decide)
        have hVr9_a := cs_V_tr (cs_V_rf w) hVr9_
        refine wk_call (kd := 0) (i := 80) xd_9591769c rfl (wk_cal (as := [.inr (.inr (some 2)), .inl (Int32.ofInt 1)]) (t := []) xl_2de59c4d rfl xn_b5464d7d xc_49a83f99 rfl rfl xv_780065b9 rfl) (cm_C_mono (by omega) hCr9_) ?_
        refine wk_pop xd_471090df ?_
        refine wk_iconst xd_aab72844 ?_
        refine wk_ireturn xd_d5ece1ef xr_f855882b rfl ⟨_, _, rfl, hVr9_a, .inr ⟨1, _, ?_, by decide, hBr9_, hFr9_⟩⟩
        exact if_neg hni
  obtain ⟨oo, hC, x, w', rfl, a⟩ := h9
  exact ⟨x, w', hC, a⟩
theorem ss_take0 {w : cm_W} {T : Nat → Int} {n m p : Nat} {f : Nat → Int} {g : Nat → Int64} {a0 b0 : Int} {h : Nat → Int} {nm : Nat → Nat} {z : Int32} (hz : z.toInt = 0) (hM : cs_M w T n m p f g a0 b0) (hR : vl_R w 4 h nm) : ∃ x w', cm_C 4 188 [.inr (.inr (some 2)), .inr (.inr (some 4)), .inl z] w (some (.inl x), w') ∧ cs_V w w' ∧ ((∃ i, ps_look T n m nm 0 (h 0).toNat p = .inr i ∧ x.toInt = i ∧ (0 ≤ i ∧ i < (h 0).toNat ∧ 1 ≤ (tx_tk T n m p).1 ∧ (tx_tk T n m p).1 ≤ 3) ∧ cs_M w' T n m (tx_tk T n m p).2.2.1 f g a0 b0) ∨ (∃ k q, ps_look T n m nm 0 (h 0).toNat p = .inl (k, q) ∧ x.toInt = -1 ∧ cs_B w' k q)) := by
  have h9 : ∃ oo, cm_C (3 + 1) 188 [.inr (.inr (some 2)), .inr (.inr (some 4)), .inl z] w oo ∧ (fun oo : cm_O => ∃ x w', oo = (some (.inl x), w') ∧ cs_V w w' ∧ ((∃ i, ps_look T n m nm 0 (h 0).toNat p = .inr i ∧ x.toInt = i ∧ (0 ≤ i ∧ i < (h 0).toNat ∧ 1 ≤ (tx_tk T n m p).1 ∧ (tx_tk T n m p).1 ≤ 3) ∧ cs_M w' T n m (tx_tk T n m p).2.2.1 f g a0 b0) ∨ (∃ k q, ps_look T n m nm 0 (h 0).toNat p = .inl (k, q) ∧ x.toInt = -1 ∧ cs_B w' k q))) oo := by
    refine wk_entry (by rw [xm_90837fcc]; exact Nat.le_of_ble_eq_true rfl) ?_
    rw [show cm_ent 188 [.inr (.inr (some 2)), .inr (.inr (some 4)), .inl z] = [some (.inr (.inr (some 2))), some (.inr (.inr (some 4))), some (.inl z), none] from by unfold cm_ent; rw [xm_90837fcc]; rfl]
    refine wk_aload_n xd_af5014bc rfl ?_
    refine wk_aload_n xd_0943d7d8 rfl ?_
    refine wk_iload_n xd_62054758 rfl ?_
    obtain ⟨xl, wl, hCl, hVl, hl⟩ := cs_look4_0 (z := z) hz hM hR
    refine wk_call (kd := 0) (i := 100) xd_f311a08d rfl (wk_cal (as := [.inr (.inr (some 2)), .inr (.inr (some 4)), .inl z]) (t := []) xl_65deb051 rfl xn_cd6aa68a xc_ec32c43f rfl rfl xv_5ef21940 rfl) (cm_C_mono (by omega) hCl) ?_
    rcases hl with ⟨i, el, hx, rfl⟩ | ⟨k, q, el, hx, hB, hF⟩
    · have hi := ps_look_b el
      refine wk_istore_n xd_95948f65 (by rw [xm_90837fcc]; rfl) rfl ?_
      refine wk_iload_n xd_c44a25af rfl ?_
      refine wk_iconst xd_bc28b3b7 ?_
      refine wk_icmp xd_0df7f1ee (t := 16) rfl (fun h9_0 => ?_) (fun h9_0 => ?_)
      · have h9_0 := aw_eq_t (a := (i : Int)) (b := ((-1) : Int)) hx (show ((Int32.ofInt (-1))).toInt = (-1) from by decide) h9_0
        exfalso
        omega
      · have h9_0 := aw_eq_f (a := (i : Int)) (b := ((-1) : Int)) hx (show ((Int32.ofInt (-1))).toInt = (-1) from by decide) h9_0
        refine wk_aload_n xd_a786a111 rfl ?_
        obtain ⟨wn2_, hCn2_, hVn2_, hMn2_⟩ := cs_next hM hi.2.2
        have hVn2_a := cs_V_tr hVl hVn2_
        refine wk_call (kd := 0) (i := 55) xd_ac2985be rfl (wk_cal (as := [.inr (.inr (some 2))]) (t := []) xl_1a525883 rfl xn_568f4fa7 xc_1d38a579 rfl rfl xv_65cfb41b rfl) (cm_C_mono (by omega) hCn2_) ?_
        refine wk_iload_n xd_ba79a93f rfl ?_
        exact wk_ireturn xd_e9229c1d xr_02b3849b rfl ⟨_, _, rfl, hVn2_a, .inl ⟨_, el, hx, hi, hMn2_⟩⟩
    · skip
      refine wk_istore_n xd_95948f65 (by rw [xm_90837fcc]; rfl) rfl ?_
      refine wk_iload_n xd_c44a25af rfl ?_
      refine wk_iconst xd_bc28b3b7 ?_
      refine wk_icmp xd_0df7f1ee (t := 16) rfl (fun _ => ?_) (fun h => absurd (aw_eq_f hx (show ((Int32.ofInt (-1))).toInt = (-1) from by decide) h) (by omega))
      refine wk_iload_n xd_ba79a93f rfl ?_
      exact wk_ireturn xd_e9229c1d xr_02b3849b rfl ⟨_, _, rfl, hVl, .inr ⟨_, _, el, hx, hB⟩⟩
  obtain ⟨oo, hC, x, w', rfl, a⟩ := h9
  exact ⟨x, w', hC, a⟩
theorem ss_take1 {w : cm_W} {T : Nat → Int} {n m p : Nat} {f : Nat → Int} {g : Nat → Int64} {a0 b0 : Int} {h : Nat → Int} {nm : Nat → Nat} {z : Int32} (hz : z.toInt = 1) (hM : cs_M w T n m p f g a0 b0) (hR : vl_R w 4 h nm) : ∃ x w', cm_C 4 188 [.inr (.inr (some 2)), .inr (.inr (some 4)), .inl z] w (some (.inl x), w') ∧ cs_V w w' ∧ ((∃ i, ps_look T n m nm 6 (h 1).toNat p = .inr i ∧ x.toInt = i ∧ (0 ≤ i ∧ i < (h 1).toNat ∧ 1 ≤ (tx_tk T n m p).1 ∧ (tx_tk T n m p).1 ≤ 3) ∧ cs_M w' T n m (tx_tk T n m p).2.2.1 f g a0 b0) ∨ (∃ k q, ps_look T n m nm 6 (h 1).toNat p = .inl (k, q) ∧ x.toInt = -1 ∧ cs_B w' k q)) := by
  have h9 : ∃ oo, cm_C (3 + 1) 188 [.inr (.inr (some 2)), .inr (.inr (some 4)), .inl z] w oo ∧ (fun oo : cm_O => ∃ x w', oo = (some (.inl x), w') ∧ cs_V w w' ∧ ((∃ i, ps_look T n m nm 6 (h 1).toNat p = .inr i ∧ x.toInt = i ∧ (0 ≤ i ∧ i < (h 1).toNat ∧ 1 ≤ (tx_tk T n m p).1 ∧ (tx_tk T n m p).1 ≤ 3) ∧ cs_M w' T n m (tx_tk T n m p).2.2.1 f g a0 b0) ∨ (∃ k q, ps_look T n m nm 6 (h 1).toNat p = .inl (k, q) ∧ x.toInt = -1 ∧ cs_B w' k q))) oo := by
    refine wk_entry (by rw [xm_90837fcc]; exact Nat.le_of_ble_eq_true rfl) ?_
    rw [show cm_ent 188 [.inr (.inr (some 2)), .inr (.inr (some 4)), .inl z] = [some (.inr (.inr (some 2))), some (.inr (.inr (some 4))), some (.inl z), none] from by unfold cm_ent; rw [xm_90837fcc]; rfl]
    refine wk_aload_n xd_af5014bc rfl ?_
    refine wk_aload_n xd_0943d7d8 rfl ?_
    refine wk_iload_n xd_62054758 rfl ?_
    obtain ⟨xl, wl, hCl, hVl, hl⟩ := cs_look4_1 (z := z) hz hM hR
    refine wk_call (kd := 0) (i := 100) xd_f311a08d rfl (wk_cal (as := [.inr (.inr (some 2)), .inr (.inr (some 4)), .inl z]) (t := []) xl_65deb051 rfl xn_cd6aa68a xc_ec32c43f rfl rfl xv_5ef21940 rfl) (cm_C_mono (by omega) hCl) ?_
    rcases hl with ⟨i, el, hx, rfl⟩ | ⟨k, q, el, hx, hB, hF⟩
    · have hi := ps_look_b el
      refine wk_istore_n xd_95948f65 (by rw [xm_90837fcc]; rfl) rfl ?_
      refine wk_iload_n xd_c44a25af rfl ?_
      refine wk_iconst xd_bc28b3b7 ?_
      refine wk_icmp xd_0df7f1ee (t := 16) rfl (fun h9_0 => ?_) (fun h9_0 => ?_)
      · have h9_0 := aw_eq_t (a := (i : Int)) (b := ((-1) : Int)) hx (show ((Int32.ofInt (-1))).toInt = (-1) from by decide) h9_0
        exfalso
        omega
      · have h9_0 := aw_eq_f (a := (i : Int)) (b := ((-1) : Int)) hx (show ((Int32.ofInt (-1))).toInt = (-1) from by decide) h9_0
        refine wk_aload_n xd_a786a111 rfl ?_
        obtain ⟨wn2_, hCn2_, hVn2_, hMn2_⟩ := cs_next hM hi.2.2
        have hVn2_a := cs_V_tr hVl hVn2_
        refine wk_call (kd := 0) (i := 55) xd_ac2985be rfl (wk_cal (as := [.inr (.inr (some 2))]) (t := []) xl_1a525883 rfl xn_568f4fa7 xc_1d38a579 rfl rfl xv_65cfb41b rfl) (cm_C_mono (by omega) hCn2_) ?_
        refine wk_iload_n xd_ba79a93f rfl ?_
        exact wk_ireturn xd_e9229c1d xr_02b3849b rfl ⟨_, _, rfl, hVn2_a, .inl ⟨_, el, hx, hi, hMn2_⟩⟩
    · skip
      refine wk_istore_n xd_95948f65 (by rw [xm_90837fcc]; rfl) rfl ?_
      refine wk_iload_n xd_c44a25af rfl ?_
      refine wk_iconst xd_bc28b3b7 ?_
      refine wk_icmp xd_0df7f1ee (t := 16) rfl (fun _ => ?_) (fun h => absurd (aw_eq_f hx (show ((Int32.ofInt (-1))).toInt = (-1) from by decide) h) (by omega))
      refine wk_iload_n xd_ba79a93f rfl ?_
      exact wk_ireturn xd_e9229c1d xr_02b3849b rfl ⟨_, _, rfl, hVl, .inr ⟨_, _, el, hx, hB⟩⟩
  obtain ⟨oo, hC, x, w', rfl, a⟩ := h9
  exact ⟨x, w', hC, a⟩
theorem ss_take2 {w : cm_W} {T : Nat → Int} {n m p : Nat} {f : Nat → Int} {g : Nat → Int64} {a0 b0 : Int} {h : Nat → Int} {nm : Nat → Nat} {z : Int32} (hz : z.toInt = 2) (hM : cs_M w T n m p f g a0 b0) (hR : vl_R w 4 h nm) : ∃ x w', cm_C 4 188 [.inr (.inr (some 2)), .inr (.inr (some 4)), .inl z] w (some (.inl x), w') ∧ cs_V w w' ∧ ((∃ i, ps_look T n m nm 10 (h 2).toNat p = .inr i ∧ x.toInt = i ∧ (0 ≤ i ∧ i < (h 2).toNat ∧ 1 ≤ (tx_tk T n m p).1 ∧ (tx_tk T n m p).1 ≤ 3) ∧ cs_M w' T n m (tx_tk T n m p).2.2.1 f g a0 b0) ∨ (∃ k q, ps_look T n m nm 10 (h 2).toNat p = .inl (k, q) ∧ x.toInt = -1 ∧ cs_B w' k q)) := by
  have h9 : ∃ oo, cm_C (3 + 1) 188 [.inr (.inr (some 2)), .inr (.inr (some 4)), .inl z] w oo ∧ (fun oo : cm_O => ∃ x w', oo = (some (.inl x), w') ∧ cs_V w w' ∧ ((∃ i, ps_look T n m nm 10 (h 2).toNat p = .inr i ∧ x.toInt = i ∧ (0 ≤ i ∧ i < (h 2).toNat ∧ 1 ≤ (tx_tk T n m p).1 ∧ (tx_tk T n m p).1 ≤ 3) ∧ cs_M w' T n m (tx_tk T n m p).2.2.1 f g a0 b0) ∨ (∃ k q, ps_look T n m nm 10 (h 2).toNat p = .inl (k, q) ∧ x.toInt = -1 ∧ cs_B w' k q))) oo := by
    refine wk_entry (by rw [xm_90837fcc]; exact Nat.le_of_ble_eq_true rfl) ?_
    rw [show cm_ent 188 [.inr (.inr (some 2)), .inr (.inr (some 4)), .inl z] = [some (.inr (.inr (some 2))), some (.inr (.inr (some 4))), some (.inl z), none] from by unfold cm_ent; rw [xm_90837fcc]; rfl]
    refine wk_aload_n xd_af5014bc rfl ?_
    refine wk_aload_n xd_0943d7d8 rfl ?_
    refine wk_iload_n xd_62054758 rfl ?_
    obtain ⟨xl, wl, hCl, hVl, hl⟩ := cs_look4_2 (z := z) hz hM hR
    refine wk_call (kd := 0) (i := 100) xd_f311a08d rfl (wk_cal (as := [.inr (.inr (some 2)), .inr (.inr (some 4)), .inl z]) (t := []) xl_65deb051 rfl xn_cd6aa68a xc_ec32c43f rfl rfl xv_5ef21940 rfl) (cm_C_mono (by omega) hCl) ?_
    rcases hl with ⟨i, el, hx, rfl⟩ | ⟨k, q, el, hx, hB, hF⟩
    · have hi := ps_look_b el
      refine wk_istore_n xd_95948f65 (by rw [xm_90837fcc]; rfl) rfl ?_
      refine wk_iload_n xd_c44a25af rfl ?_
      refine wk_iconst xd_bc28b3b7 ?_
      refine wk_icmp xd_0df7f1ee (t := 16) rfl (fun h9_0 => ?_) (fun h9_0 => ?_)
      · have h9_0 := aw_eq_t (a := (i : Int)) (b := ((-1) : Int)) hx (show ((Int32.ofInt (-1))).toInt = (-1) from by decide) h9_0
        exfalso
        omega
      · have h9_0 := aw_eq_f (a := (i : Int)) (b := ((-1) : Int)) hx (show ((Int32.ofInt (-1))).toInt = (-1) from by decide) h9_0
        refine wk_aload_n xd_a786a111 rfl ?_
        obtain ⟨wn2_, hCn2_, hVn2_, hMn2_⟩ := cs_next hM hi.2.2
        have hVn2_a := cs_V_tr hVl hVn2_
        refine wk_call (kd := 0) (i := 55) xd_ac2985be rfl (wk_cal (as := [.inr (.inr (some 2))]) (t := []) xl_1a525883 rfl xn_568f4fa7 xc_1d38a579 rfl rfl xv_65cfb41b rfl) (cm_C_mono (by omega) hCn2_) ?_
        refine wk_iload_n xd_ba79a93f rfl ?_
        exact wk_ireturn xd_e9229c1d xr_02b3849b rfl ⟨_, _, rfl, hVn2_a, .inl ⟨_, el, hx, hi, hMn2_⟩⟩
    · skip
      refine wk_istore_n xd_95948f65 (by rw [xm_90837fcc]; rfl) rfl ?_
      refine wk_iload_n xd_c44a25af rfl ?_
      refine wk_iconst xd_bc28b3b7 ?_
      refine wk_icmp xd_0df7f1ee (t := 16) rfl (fun _ => ?_) (fun h => absurd (aw_eq_f hx (show ((Int32.ofInt (-1))).toInt = (-1) from by decide) h) (by omega))
      refine wk_iload_n xd_ba79a93f rfl ?_
      exact wk_ireturn xd_e9229c1d xr_02b3849b rfl ⟨_, _, rfl, hVl, .inr ⟨_, _, el, hx, hB⟩⟩
  obtain ⟨oo, hC, x, w', rfl, a⟩ := h9
  exact ⟨x, w', hC, a⟩
theorem ss_add {w : cm_W} {a b c : Int32} {st : Nat} (hst : (w.1 111 1).toInt = (st : Int)) : ∃ x w', cm_C 1 191 [.inr (.inr (some 111)), .inl a, .inl b, .inl c] w (some (.inl x), w') ∧ (∀ k i, ¬ (k = 111 ∧ i = 1) → ¬ (112 ≤ k ∧ k ≤ 114) → w'.1 k i = w.1 k i) ∧ w'.2 = w.2 ∧ ((c.toInt ≠ -1 ∧ st < 40 ∧ x.toInt = 1 ∧ (w'.1 111 1).toInt = ((st + 1 : Nat) : Int)) ∨ ((c.toInt = -1 ∨ 40 ≤ st) ∧ x.toInt = 0 ∧ w' = w)) := by
  have h9 : ∃ oo, cm_C (0 + 1) 191 [.inr (.inr (some 111)), .inl a, .inl b, .inl c] w oo ∧ (fun oo : cm_O => ∃ x w', oo = (some (.inl x), w') ∧ (∀ k i, ¬ (k = 111 ∧ i = 1) → ¬ (112 ≤ k ∧ k ≤ 114) → w'.1 k i = w.1 k i) ∧ w'.2 = w.2 ∧ ((c.toInt ≠ -1 ∧ st < 40 ∧ x.toInt = 1 ∧ (w'.1 111 1).toInt = ((st + 1 : Nat) : Int)) ∨ ((c.toInt = -1 ∨ 40 ≤ st) ∧ x.toInt = 0 ∧ w' = w))) oo := by
    refine wk_entry (by rw [xm_56cfce18]; exact Nat.le_of_ble_eq_true rfl) ?_
    rw [show cm_ent 191 [.inr (.inr (some 111)), .inl a, .inl b, .inl c] = [some (.inr (.inr (some 111))), some (.inl a), some (.inl b), some (.inl c)] from by unfold cm_ent; rw [xm_56cfce18]; rfl]
    refine wk_iload_n xd_6e4b2d6b rfl ?_
    refine wk_iconst xd_5ab57cdf ?_
    refine wk_icmp xd_bd6e99e7 (t := 14) rfl (fun h2_0 => ?_) (fun h2_0 => ?_)
    · have h2_0 := aw_eq_t (a := ((c).toInt : Int)) (b := ((-1) : Int)) rfl (show ((Int32.ofInt (-1))).toInt = (-1) from by decide) h2_0
      refine wk_iconst xd_b7ff8427 ?_
      exact wk_ireturn xd_637b384e xr_3550d28b wk_z0 ⟨_, _, rfl, fun _ _ _ _ => rfl, rfl, .inr ⟨by omega, by decide, rfl⟩⟩
    · have h2_0 := aw_eq_f (a := ((c).toInt : Int)) (b := ((-1) : Int)) rfl (show ((Int32.ofInt (-1))).toInt = (-1) from by decide) h2_0
      refine wk_aload_n xd_e8c7cf91 rfl ?_
      refine wk_getI xf_f8f0852a xd_9ec222c5 ?_
      refine wk_bipush xd_3ef74fd3 ?_
      refine wk_icmp xd_08f5ca71 (t := 16) rfl (fun h11_1 => ?_) (fun h11_1 => ?_)
      · have h11_1 := aw_lt_t (a := ((st : Int) : Int)) (b := (40 : Int)) (show ((w.1 111 1)).toInt = ((st : Int) : Int) from hst) (show (((Int8.ofInt 40).toInt32)).toInt = 40 from by decide) h11_1
        refine wk_aload_n xd_0a613054 rfl ?_
        refine wk_getR xf_4ece2c60 xd_1eaf3a67 ?_
        refine wk_aload_n xd_bfb5eb06 rfl ?_
        refine wk_getI xf_f8f0852a xd_0ca7abe6 ?_
        refine wk_iload_n xd_d88ab048 rfl ?_
        refine aw_iastore (i := st) xf_48a404b8 (show ((w.1 111 1)).toInt = ((st : Int) : Int) from hst) (by omega) (by omega) xd_fd3e668f ?_
        refine wk_aload_n xd_527f997c rfl ?_
        refine wk_getR xf_150cdd5b xd_1978715f ?_
        refine wk_aload_n xd_3e908e21 rfl ?_
        refine wk_getI xf_f8f0852a xd_ebba0d71 ?_
        refine wk_iload_n xd_1e0fafbf rfl ?_
        refine aw_iastore (i := st) xf_d5abe5ce (show (((cm_u1 w 112 st a).1 111 1)).toInt = ((st : Int) : Int) from hst) (by omega) (by omega) xd_ea16024f ?_
        refine wk_aload_n xd_d35afc5b rfl ?_
        refine wk_getR xf_b37f16a1 xd_06f51379 ?_
        refine wk_aload_n xd_0f88b956 rfl ?_
        refine wk_getI xf_f8f0852a xd_33797657 ?_
        refine wk_iload_n xd_1277b178 rfl ?_
        refine aw_iastore (i := st) xf_b0664f0e (show (((cm_u1 (cm_u1 w 112 st a) 113 st b).1 111 1)).toInt = ((st : Int) : Int) from hst) (by omega) (by omega) xd_8fcf3c0f ?_
        refine wk_aload_n xd_e242cb2c rfl ?_
        refine wk_dup_r xd_1857660c ?_
        refine wk_getI xf_f8f0852a xd_baf975ee ?_
        refine wk_iconst xd_c14afbc4 ?_
        refine aw_iadd (a := ((st : Int) : Int)) (b := (1 : Int)) (e := ((st : Int) + 1 : Int)) xd_877f9dbc (show (((cm_u1 (cm_u1 (cm_u1 w 112 st a) 113 st b) 114 st c).1 111 1)).toInt = ((st : Int) : Int) from hst) (show ((Int32.ofInt 1)).toInt = 1 from by decide) (by omega) (by omega) (by omega) (fun v3_ p3_ => ?_)
        refine wk_putI xf_b683cd60 (fun ci => wk_fitI ci) xd_fdd35aa4 ?_
        refine wk_iconst xd_a493c584 ?_
        exact wk_ireturn xd_db1eaa33 xr_3550d28b wk_z1 ⟨_, _, rfl, fun k i h1 h2 => by rw [hs_u1_ne (by omega), hs_u1_ne (by omega), hs_u1_ne (by omega), hs_u1_ne (by omega)], rfl, .inl ⟨by omega, by omega, by decide, by rw [hs_u1_self, p3_]; omega⟩⟩
      · have h11_1 := aw_lt_f (a := ((st : Int) : Int)) (b := (40 : Int)) (show ((w.1 111 1)).toInt = ((st : Int) : Int) from hst) (show (((Int8.ofInt 40).toInt32)).toInt = 40 from by decide) h11_1
        refine wk_iconst xd_b7ff8427 ?_
        exact wk_ireturn xd_637b384e xr_3550d28b wk_z0 ⟨_, _, rfl, fun _ _ _ _ => rfl, rfl, .inr ⟨by omega, by decide, rfl⟩⟩
  obtain ⟨oo, hC, x, w', rfl, a⟩ := h9
  exact ⟨x, w', hC, a⟩
theorem ss_join {w : cm_W} {j q : Int32} {st u : Nat} (hst : (w.1 111 1).toInt = (st : Int)) (hq : q.toInt = (u : Int)) : ∃ w', cm_C 2 194 [.inr (.inr (some 111)), .inl j, .inl q] w (some (.inl (Int32.ofInt 0)), w') ∧ (∀ k i, ¬ (k = 111 ∧ i = 1) → ¬ (112 ≤ k ∧ k ≤ 114) → w'.1 k i = w.1 k i) ∧ w'.2 = w.2 ∧ ∃ st' : Nat, (w'.1 111 1).toInt = (st' : Int) ∧ st' ≤ st + u := by
  have h9 : ∃ oo, cm_C (1 + 1) 194 [.inr (.inr (some 111)), .inl j, .inl q] w oo ∧ (fun oo : cm_O => ∃ w', oo = (some (.inl (Int32.ofInt 0)), w') ∧ (∀ k i, ¬ (k = 111 ∧ i = 1) → ¬ (112 ≤ k ∧ k ≤ 114) → w'.1 k i = w.1 k i) ∧ w'.2 = w.2 ∧ ∃ st' : Nat, (w'.1 111 1).toInt = (st' : Int) ∧ st' ≤ st + u) oo := by
    refine wk_entry (by rw [xm_004bd4cb]; exact Nat.le_of_ble_eq_true rfl) ?_
    rw [show cm_ent 194 [.inr (.inr (some 111)), .inl j, .inl q] = [some (.inr (.inr (some 111))), some (.inl j), some (.inl q)] from by unfold cm_ent; rw [xm_004bd4cb]; rfl]
    refine wk_iload_n xd_9ea23492 rfl ?_
    refine wk_if xd_7fcc7aed (t := 12) rfl (fun h1_0 => ?_) (fun h1_0 => ?_)
    · have h1_0 := aw_le_t (a := ((u : Int) : Int)) (b := (0 : Int)) hq hb_z h1_0
      refine wk_iconst xd_0887eeee ?_
      exact wk_ireturn xd_cb70e77d xr_0506dc16 rfl ⟨_, rfl, fun _ _ _ _ => rfl, rfl, st, hst, by omega⟩
    · have h1_0 := aw_le_f (a := ((u : Int) : Int)) (b := (0 : Int)) hq hb_z h1_0
      refine wk_aload_n xd_be3d150c rfl ?_
      refine wk_iload_n xd_422d0505 rfl ?_
      refine wk_iconst xd_e064ebdb ?_
      refine wk_iconst xd_f74c8f1b ?_
      obtain ⟨xa, wa, hCa, f1, f2, fa⟩ := ss_add (w := w) (a := j) (b := (Int32.ofInt 0)) (c := (Int32.ofInt 0)) hst
      refine wk_call (kd := 0) (i := 67) xd_68bc5824 rfl (wk_cal (as := [.inr (.inr (some 111)), .inl j, .inl (Int32.ofInt 0), .inl (Int32.ofInt 0)]) (t := []) xl_8f84ec50 rfl xn_2a723c9c xc_62d23603 rfl rfl xv_f554e49c rfl) (cm_C_mono (by omega) hCa) ?_
      refine wk_pop xd_e766aee6 ?_
      refine wk_iconst xd_0887eeee ?_
      rcases fa with ⟨_, _, _, e⟩ | ⟨_, _, e⟩
      · exact wk_ireturn xd_cb70e77d xr_0506dc16 rfl ⟨_, rfl, f1, f2, st + 1, e, by omega⟩
      · rw [e]
        exact wk_ireturn xd_cb70e77d xr_0506dc16 rfl ⟨_, rfl, fun _ _ _ _ => rfl, rfl, st, hst, by omega⟩
  obtain ⟨oo, hC, w', rfl, a⟩ := h9
  exact ⟨w', hC, a⟩
theorem ss_cmp {w : cm_W} {T : Nat → Int} {n m p o st : Nat} {fi : Int32} (hM : ss_M w T n m p o st) (hst : st < 40) : ∃ x w', cm_C 4 198 [.inr (.inr (some 111)), .inr (.inr (some 2)), .inl fi] w (some (.inl x), w') ∧ ss_V w w' ∧ ((∃ p', sp_cmp T n m o p = .inr (o, p') ∧ x.toInt = 1 ∧ ss_M w' T n m p' o (st + 1)) ∨ (∃ k q, sp_cmp T n m o p = .inl (k, q) ∧ x.toInt = 0 ∧ cs_B w' k q)) := by
  have h9 : ∃ oo, cm_C (3 + 1) 198 [.inr (.inr (some 111)), .inr (.inr (some 2)), .inl fi] w oo ∧ (fun oo : cm_O => ∃ x w', oo = (some (.inl x), w') ∧ ss_V w w' ∧ ((∃ p', sp_cmp T n m o p = .inr (o, p') ∧ x.toInt = 1 ∧ ss_M w' T n m p' o (st + 1)) ∨ (∃ k q, sp_cmp T n m o p = .inl (k, q) ∧ x.toInt = 0 ∧ cs_B w' k q))) oo := by
    refine wk_entry (by rw [xm_5bdfac69]; exact Nat.le_of_ble_eq_true rfl) ?_
    rw [show cm_ent 198 [.inr (.inr (some 111)), .inr (.inr (some 2)), .inl fi] = [some (.inr (.inr (some 111))), some (.inr (.inr (some 2))), some (.inl fi), none] from by unfold cm_ent; rw [xm_5bdfac69]; rfl]
    refine wk_aload_n xd_fcbc264d rfl ?_
    refine wk_bipush xd_c1b226d5 ?_
    obtain ⟨xz60_, hCz60_, hxz60_⟩ := is_ok (w := w) (k := ((Int8.ofInt 60).toInt32)) (c := 60) (by decide) hM.1.2.1
    refine wk_call (kd := 0) (i := 71) xd_e758872d rfl (wk_cal (as := [.inr (.inr (some 2)), .inl ((Int8.ofInt 60).toInt32)]) (t := []) xl_f57eadbe rfl xn_f2e637ad xc_3770e809 rfl rfl xv_6b285cca rfl) (cm_C_mono (by omega) hCz60_) ?_
    refine wk_if xd_43ce01c2 (t := 33) rfl (fun h6_0 => ?_) (fun h6_0 => ?_)
    · have h6_0 := aw_ne_t (a := ((xz60_).toInt : Int)) (b := (0 : Int)) rfl hb_z h6_0
      refine wk_aload_n xd_d91b5367 rfl ?_
      refine wk_getI xf_f5d474a3 xd_215c2cd5 ?_
      refine wk_istore_n xd_9684d0d4 (by rw [xm_5bdfac69]; rfl) rfl ?_
      refine wk_aload_n xd_af47297c rfl ?_
      obtain ⟨wn2_, hCn2_, hVn2_, hNn2_⟩ := cs_next (ss_c hM) ⟨by omega, by omega⟩
      have hMn2_ := ss_of hM hVn2_ hNn2_
      have hVn2_a := ss_V_tr (ss_V_rf w) (ss_V_c hVn2_)
      refine wk_call (kd := 0) (i := 60) xd_70bb661b rfl (wk_cal (as := [.inr (.inr (some 2))]) (t := []) xl_38f50a73 rfl xn_568f4fa7 xc_1d38a579 rfl rfl xv_65cfb41b rfl) (cm_C_mono (by omega) hCn2_) ?_
      refine wk_aload_n xd_4e10a774 rfl ?_
      refine wk_iload_n xd_f5a0cdad rfl ?_
      refine wk_iload_n xd_be797cb3 rfl ?_
      refine wk_aload_n xd_05c9166a rfl ?_
      refine wk_iconst xd_b0b48dcb ?_
      refine wk_sipush xd_fc865c5b ?_
      obtain ⟨xt, wt, hCt, hVt, hRt⟩ := cs_num (a := (Int32.ofInt 0)) (b := ((Int16.ofInt 999).toInt32)) (lo := 0) (hi := 999) (ss_c hMn2_) (by decide) (by decide)
      have hVta := ss_V_tr hVn2_a (ss_V_c hVt)
      refine wk_call (kd := 0) (i := 87) xd_dad75494 rfl (wk_cal (as := [.inr (.inr (some 2)), .inl (Int32.ofInt 0), .inl ((Int16.ofInt 999).toInt32)]) (t := [.inl (w.1 2 10), .inl fi, .inr (.inr (some 111))]) xl_ad4bd201 rfl xn_4f3a315b xc_18628866 rfl rfl xv_017ac5ff rfl) (cm_C_mono (by omega) hCt) ?_
      rcases hRt with ⟨et, hxt, hNt⟩ | ⟨et, hxt, hBt⟩
      · have hMt := ss_of hMn2_ hVt hNt
        have hnn : 0 ≤ (tx_tk T n m (tx_tk T n m p).2.2.1).2.2.2.1 := by
          unfold tx_num at et
          split at et
          · split at et
            · omega
            · omega
          · omega
        obtain ⟨xa, wa, hCa, f1, f2, fa⟩ := ss_add (w := wt) (a := fi) (b := (w.1 2 10)) (c := xt) hMt.2.2.2
        have e9 : (xt).toInt = ((tx_tk T n m (tx_tk T n m p).2.2.1).2.2.2.1 : Int) := hxt
        refine wk_call (kd := 0) (i := 67) xd_a47c10fc rfl (wk_cal (as := [.inr (.inr (some 111)), .inl fi, .inl (w.1 2 10), .inl xt]) (t := []) xl_38ab2e45 rfl xn_2a723c9c xc_62d23603 rfl rfl xv_f554e49c rfl) (cm_C_mono (by omega) hCa) ?_
        rcases fa with ⟨_, _, hxa, ea⟩ | ⟨z, _⟩
        rotate_left
        · omega
        have hMa : ss_M wa T n m (tx_tk T n m (tx_tk T n m p).2.2.1).2.2.1 o (st + 1) := ss_fr hMt (fun k i hk => ⟨f1 k i (by omega) (by omega), by rw [f2]⟩) (by rw [f1 111 0 (by omega) (by omega)]; exact hMt.2.2.1) ea
        have hVa := ss_V_tr hVta (show ss_V wt wa from fun k i _ _ a => ⟨f1 k i (by omega) (by omega), by rw [f2]⟩)
        exact wk_ireturn xd_cd442a14 xr_54e65656 (aw_bit (by omega) (by omega)) ⟨_, _, rfl, hVa, .inl ⟨_, (if_pos (by omega)).trans (if_pos et), hxa, hMa⟩⟩
      · have hst9 : (wt.1 111 1).toInt = (st : Int) := by rw [(hVt 111 1 (by omega) (by omega)).1]; exact hMn2_.2.2.2
        obtain ⟨xa, wa, hCa, f1, f2, fa⟩ := ss_add (w := wt) (a := fi) (b := (w.1 2 10)) (c := xt) hst9
        have e9 : (xt).toInt = ((-1) : Int) := hxt
        refine wk_call (kd := 0) (i := 67) xd_a47c10fc rfl (wk_cal (as := [.inr (.inr (some 111)), .inl fi, .inl (w.1 2 10), .inl xt]) (t := []) xl_38ab2e45 rfl xn_2a723c9c xc_62d23603 rfl rfl xv_f554e49c rfl) (cm_C_mono (by omega) hCa) ?_
        rcases fa with ⟨z, _⟩ | ⟨_, hxa, rfl⟩
        · exact absurd e9 z
        exact wk_ireturn xd_cd442a14 xr_54e65656 (aw_bit (by omega) (by omega)) ⟨_, _, rfl, hVta, .inr ⟨_, _, (if_pos (by omega)).trans (if_neg et), hxa, hBt⟩⟩
    · have h6_0 := aw_ne_f (a := ((xz60_).toInt : Int)) (b := (0 : Int)) rfl hb_z h6_0
      refine wk_aload_n xd_67768fbf rfl ?_
      refine wk_bipush xd_edd865a9 ?_
      obtain ⟨xz61_, hCz61_, hxz61_⟩ := is_ok (w := w) (k := ((Int8.ofInt 61).toInt32)) (c := 61) (by decide) hM.1.2.1
      refine wk_call (kd := 0) (i := 71) xd_e79f76b5 rfl (wk_cal (as := [.inr (.inr (some 2)), .inl ((Int8.ofInt 61).toInt32)]) (t := []) xl_f57eadbe rfl xn_f2e637ad xc_3770e809 rfl rfl xv_6b285cca rfl) (cm_C_mono (by omega) hCz61_) ?_
      refine wk_if xd_7396050f (t := 33) rfl (fun h15_2 => ?_) (fun h15_2 => ?_)
      · have h15_2 := aw_ne_t (a := ((xz61_).toInt : Int)) (b := (0 : Int)) rfl hb_z h15_2
        refine wk_aload_n xd_d91b5367 rfl ?_
        refine wk_getI xf_f5d474a3 xd_215c2cd5 ?_
        refine wk_istore_n xd_9684d0d4 (by rw [xm_5bdfac69]; rfl) rfl ?_
        refine wk_aload_n xd_af47297c rfl ?_
        obtain ⟨wn4_, hCn4_, hVn4_, hNn4_⟩ := cs_next (ss_c hM) ⟨by omega, by omega⟩
        have hMn4_ := ss_of hM hVn4_ hNn4_
        have hVn4_a := ss_V_tr (ss_V_rf w) (ss_V_c hVn4_)
        refine wk_call (kd := 0) (i := 60) xd_70bb661b rfl (wk_cal (as := [.inr (.inr (some 2))]) (t := []) xl_38f50a73 rfl xn_568f4fa7 xc_1d38a579 rfl rfl xv_65cfb41b rfl) (cm_C_mono (by omega) hCn4_) ?_
        refine wk_aload_n xd_4e10a774 rfl ?_
        refine wk_iload_n xd_f5a0cdad rfl ?_
        refine wk_iload_n xd_be797cb3 rfl ?_
        refine wk_aload_n xd_05c9166a rfl ?_
        refine wk_iconst xd_b0b48dcb ?_
        refine wk_sipush xd_fc865c5b ?_
        obtain ⟨xt, wt, hCt, hVt, hRt⟩ := cs_num (a := (Int32.ofInt 0)) (b := ((Int16.ofInt 999).toInt32)) (lo := 0) (hi := 999) (ss_c hMn4_) (by decide) (by decide)
        have hVta := ss_V_tr hVn4_a (ss_V_c hVt)
        refine wk_call (kd := 0) (i := 87) xd_dad75494 rfl (wk_cal (as := [.inr (.inr (some 2)), .inl (Int32.ofInt 0), .inl ((Int16.ofInt 999).toInt32)]) (t := [.inl (w.1 2 10), .inl fi, .inr (.inr (some 111))]) xl_ad4bd201 rfl xn_4f3a315b xc_18628866 rfl rfl xv_017ac5ff rfl) (cm_C_mono (by omega) hCt) ?_
        rcases hRt with ⟨et, hxt, hNt⟩ | ⟨et, hxt, hBt⟩
        · have hMt := ss_of hMn4_ hVt hNt
          have hnn : 0 ≤ (tx_tk T n m (tx_tk T n m p).2.2.1).2.2.2.1 := by
            unfold tx_num at et
            split at et
            · split at et
              · omega
              · omega
            · omega
          obtain ⟨xa, wa, hCa, f1, f2, fa⟩ := ss_add (w := wt) (a := fi) (b := (w.1 2 10)) (c := xt) hMt.2.2.2
          have e9 : (xt).toInt = ((tx_tk T n m (tx_tk T n m p).2.2.1).2.2.2.1 : Int) := hxt
          refine wk_call (kd := 0) (i := 67) xd_a47c10fc rfl (wk_cal (as := [.inr (.inr (some 111)), .inl fi, .inl (w.1 2 10), .inl xt]) (t := []) xl_38ab2e45 rfl xn_2a723c9c xc_62d23603 rfl rfl xv_f554e49c rfl) (cm_C_mono (by omega) hCa) ?_
          rcases fa with ⟨_, _, hxa, ea⟩ | ⟨z, _⟩
          rotate_left
          · omega
          have hMa : ss_M wa T n m (tx_tk T n m (tx_tk T n m p).2.2.1).2.2.1 o (st + 1) := ss_fr hMt (fun k i hk => ⟨f1 k i (by omega) (by omega), by rw [f2]⟩) (by rw [f1 111 0 (by omega) (by omega)]; exact hMt.2.2.1) ea
          have hVa := ss_V_tr hVta (show ss_V wt wa from fun k i _ _ a => ⟨f1 k i (by omega) (by omega), by rw [f2]⟩)
          exact wk_ireturn xd_cd442a14 xr_54e65656 (aw_bit (by omega) (by omega)) ⟨_, _, rfl, hVa, .inl ⟨_, (if_pos (by omega)).trans (if_pos et), hxa, hMa⟩⟩
        · have hst9 : (wt.1 111 1).toInt = (st : Int) := by rw [(hVt 111 1 (by omega) (by omega)).1]; exact hMn4_.2.2.2
          obtain ⟨xa, wa, hCa, f1, f2, fa⟩ := ss_add (w := wt) (a := fi) (b := (w.1 2 10)) (c := xt) hst9
          have e9 : (xt).toInt = ((-1) : Int) := hxt
          refine wk_call (kd := 0) (i := 67) xd_a47c10fc rfl (wk_cal (as := [.inr (.inr (some 111)), .inl fi, .inl (w.1 2 10), .inl xt]) (t := []) xl_38ab2e45 rfl xn_2a723c9c xc_62d23603 rfl rfl xv_f554e49c rfl) (cm_C_mono (by omega) hCa) ?_
          rcases fa with ⟨z, _⟩ | ⟨_, hxa, rfl⟩
          · exact absurd e9 z
          exact wk_ireturn xd_cd442a14 xr_54e65656 (aw_bit (by omega) (by omega)) ⟨_, _, rfl, hVta, .inr ⟨_, _, (if_pos (by omega)).trans (if_neg et), hxa, hBt⟩⟩
      · have h15_2 := aw_ne_f (a := ((xz61_).toInt : Int)) (b := (0 : Int)) rfl hb_z h15_2
        refine wk_aload_n xd_767ce573 rfl ?_
        refine wk_bipush xd_31b2b68b ?_
        obtain ⟨xz62_, hCz62_, hxz62_⟩ := is_ok (w := w) (k := ((Int8.ofInt 62).toInt32)) (c := 62) (by decide) hM.1.2.1
        refine wk_call (kd := 0) (i := 71) xd_b0166ade rfl (wk_cal (as := [.inr (.inr (some 2)), .inl ((Int8.ofInt 62).toInt32)]) (t := []) xl_f57eadbe rfl xn_f2e637ad xc_3770e809 rfl rfl xv_6b285cca rfl) (cm_C_mono (by omega) hCz62_) ?_
        refine wk_if xd_6b6cbd59 (t := 33) rfl (fun h24_4 => ?_) (fun h24_4 => ?_)
        · have h24_4 := aw_ne_t (a := ((xz62_).toInt : Int)) (b := (0 : Int)) rfl hb_z h24_4
          refine wk_aload_n xd_d91b5367 rfl ?_
          refine wk_getI xf_f5d474a3 xd_215c2cd5 ?_
          refine wk_istore_n xd_9684d0d4 (by rw [xm_5bdfac69]; rfl) rfl ?_
          refine wk_aload_n xd_af47297c rfl ?_
          obtain ⟨wn6_, hCn6_, hVn6_, hNn6_⟩ := cs_next (ss_c hM) ⟨by omega, by omega⟩
          have hMn6_ := ss_of hM hVn6_ hNn6_
          have hVn6_a := ss_V_tr (ss_V_rf w) (ss_V_c hVn6_)
          refine wk_call (kd := 0) (i := 60) xd_70bb661b rfl (wk_cal (as := [.inr (.inr (some 2))]) (t := []) xl_38f50a73 rfl xn_568f4fa7 xc_1d38a579 rfl rfl xv_65cfb41b rfl) (cm_C_mono (by omega) hCn6_) ?_
          refine wk_aload_n xd_4e10a774 rfl ?_
          refine wk_iload_n xd_f5a0cdad rfl ?_
          refine wk_iload_n xd_be797cb3 rfl ?_
          refine wk_aload_n xd_05c9166a rfl ?_
          refine wk_iconst xd_b0b48dcb ?_
          refine wk_sipush xd_fc865c5b ?_
          obtain ⟨xt, wt, hCt, hVt, hRt⟩ := cs_num (a := (Int32.ofInt 0)) (b := ((Int16.ofInt 999).toInt32)) (lo := 0) (hi := 999) (ss_c hMn6_) (by decide) (by decide)
          have hVta := ss_V_tr hVn6_a (ss_V_c hVt)
          refine wk_call (kd := 0) (i := 87) xd_dad75494 rfl (wk_cal (as := [.inr (.inr (some 2)), .inl (Int32.ofInt 0), .inl ((Int16.ofInt 999).toInt32)]) (t := [.inl (w.1 2 10), .inl fi, .inr (.inr (some 111))]) xl_ad4bd201 rfl xn_4f3a315b xc_18628866 rfl rfl xv_017ac5ff rfl) (cm_C_mono (by omega) hCt) ?_
          rcases hRt with ⟨et, hxt, hNt⟩ | ⟨et, hxt, hBt⟩
          · have hMt := ss_of hMn6_ hVt hNt
            have hnn : 0 ≤ (tx_tk T n m (tx_tk T n m p).2.2.1).2.2.2.1 := by
              unfold tx_num at et
              split at et
              · split at et
                · omega
                · omega
              · omega
            obtain ⟨xa, wa, hCa, f1, f2, fa⟩ := ss_add (w := wt) (a := fi) (b := (w.1 2 10)) (c := xt) hMt.2.2.2
            have e9 : (xt).toInt = ((tx_tk T n m (tx_tk T n m p).2.2.1).2.2.2.1 : Int) := hxt
            refine wk_call (kd := 0) (i := 67) xd_a47c10fc rfl (wk_cal (as := [.inr (.inr (some 111)), .inl fi, .inl (w.1 2 10), .inl xt]) (t := []) xl_38ab2e45 rfl xn_2a723c9c xc_62d23603 rfl rfl xv_f554e49c rfl) (cm_C_mono (by omega) hCa) ?_
            rcases fa with ⟨_, _, hxa, ea⟩ | ⟨z, _⟩
            rotate_left
            · omega
            have hMa : ss_M wa T n m (tx_tk T n m (tx_tk T n m p).2.2.1).2.2.1 o (st + 1) := ss_fr hMt (fun k i hk => ⟨f1 k i (by omega) (by omega), by rw [f2]⟩) (by rw [f1 111 0 (by omega) (by omega)]; exact hMt.2.2.1) ea
            have hVa := ss_V_tr hVta (show ss_V wt wa from fun k i _ _ a => ⟨f1 k i (by omega) (by omega), by rw [f2]⟩)
            exact wk_ireturn xd_cd442a14 xr_54e65656 (aw_bit (by omega) (by omega)) ⟨_, _, rfl, hVa, .inl ⟨_, (if_pos (by omega)).trans (if_pos et), hxa, hMa⟩⟩
          · have hst9 : (wt.1 111 1).toInt = (st : Int) := by rw [(hVt 111 1 (by omega) (by omega)).1]; exact hMn6_.2.2.2
            obtain ⟨xa, wa, hCa, f1, f2, fa⟩ := ss_add (w := wt) (a := fi) (b := (w.1 2 10)) (c := xt) hst9
            have e9 : (xt).toInt = ((-1) : Int) := hxt
            refine wk_call (kd := 0) (i := 67) xd_a47c10fc rfl (wk_cal (as := [.inr (.inr (some 111)), .inl fi, .inl (w.1 2 10), .inl xt]) (t := []) xl_38ab2e45 rfl xn_2a723c9c xc_62d23603 rfl rfl xv_f554e49c rfl) (cm_C_mono (by omega) hCa) ?_
            rcases fa with ⟨z, _⟩ | ⟨_, hxa, rfl⟩
            · exact absurd e9 z
            exact wk_ireturn xd_cd442a14 xr_54e65656 (aw_bit (by omega) (by omega)) ⟨_, _, rfl, hVta, .inr ⟨_, _, (if_pos (by omega)).trans (if_neg et), hxa, hBt⟩⟩
        · have h24_4 := aw_ne_f (a := ((xz62_).toInt : Int)) (b := (0 : Int)) rfl hb_z h24_4
          refine wk_aload_n xd_586297d3 rfl ?_
          refine wk_iconst xd_abacaa81 ?_
          obtain ⟨wr7_, hCr7_, hVr7_, hBr7_, -⟩ := cs_ref (k := (Int32.ofInt 1)) (c := 1) (ss_c hM) (by decide) (by decide)
          have hVr7_a := ss_V_tr (ss_V_rf w) (ss_V_c hVr7_)
          refine wk_call (kd := 0) (i := 63) xd_39fcf41a rfl (wk_cal (as := [.inr (.inr (some 2)), .inl (Int32.ofInt 1)]) (t := []) xl_c25ef8b8 rfl xn_b5464d7d xc_49a83f99 rfl rfl xv_780065b9 rfl) (cm_C_mono (by omega) hCr7_) ?_
          exact wk_ireturn xd_ad4c742f xr_54e65656 wk_z0 ⟨_, _, rfl, hVr7_a, .inr ⟨_, _, if_neg (by omega), by decide, hBr7_⟩⟩
  obtain ⟨oo, hC, x, w', rfl, a⟩ := h9
  exact ⟨x, w', hC, a⟩
def ss_X (T : Nat → Int) (n m : Nat) (h : Nat → Int) (nm : Nat → Nat) (N y : Nat) (dv : Int) (P : Nat → Nat → sp_R) : Prop := ∀ (w : cm_W) (q : Int32) (p o st : Nat), q.toInt = dv → vl_R w 4 h nm → ss_M w T n m p o st → st ≤ 2 * o → o ≤ 20 → ∃ x w', cm_C N y [.inr (.inr (some 111)), .inr (.inr (some 2)), .inr (.inr (some 4)), .inl q] w (some (.inl x), w') ∧ ss_V w w' ∧ ss_P T n m (P o p) o st x w'
theorem so_zno {T : Nat → Int} {n m : Nat} {h : Nat → Int} {nm : Nat → Nat} {w : cm_W} {q : Int32} {p o st : Nat} (hq : q.toInt = (9 : Int)) (hR : vl_R w 4 h nm) (hM : ss_M w T n m p o st) (hst : st ≤ 2 * o) (ho9 : o ≤ 20) (ht : sp_no (tx_tk T n m p)) (hk : (w.1 2 8).toInt < 13) : ∃ x w', cm_C (3 + 1) 69 [.inr (.inr (some 111)), .inr (.inr (some 2)), .inr (.inr (some 4)), .inl q] w (some (.inl x), w') ∧ ss_V w w' ∧ ss_P T n m (sp_one T n m h nm 0 o p) o st x w' := by
  have h9 : ∃ oo, cm_C (3 + 1) 69 [.inr (.inr (some 111)), .inr (.inr (some 2)), .inr (.inr (some 4)), .inl q] w oo ∧ (fun oo : cm_O => ∃ x w', oo = (some (.inl x), w') ∧ ss_V w w' ∧ ss_P T n m (sp_one T n m h nm 0 o p) o st x w') oo := by
    refine wk_entry (by rw [xm_9986a20b]; exact Nat.le_of_ble_eq_true rfl) ?_
    rw [show cm_ent 69 [.inr (.inr (some 111)), .inr (.inr (some 2)), .inr (.inr (some 4)), .inl q] = [some (.inr (.inr (some 111))), some (.inr (.inr (some 2))), some (.inr (.inr (some 4))), some (.inl q), none, none] from by unfold cm_ent; rw [xm_9986a20b]; rfl]
    refine wk_aload_n xd_069516b1 rfl ?_
    refine wk_getI xf_a4947e08 xd_5d0d08c5 ?_
    refine wk_istore xd_8ae2ac79 (by rw [xm_9986a20b]; rfl) rfl ?_
    refine wk_aload_n xd_eb5f64cb rfl ?_
    refine wk_bipush xd_9b99c558 ?_
    obtain ⟨xg, hCg, hxg⟩ := is_ok (w := w) (k := ((Int8.ofInt 40).toInt32)) (c := 40) (by decide) hM.1.2.1
    have hxg1 : xg.toInt = 0 := by have ht1 := ht.1; omega
    refine wk_call (kd := 0) (i := 71) xd_2541b38a rfl (wk_cal (as := [.inr (.inr (some 2)), .inl ((Int8.ofInt 40).toInt32)]) (t := []) xl_bb2f47fd rfl xn_f2e637ad xc_3770e809 rfl rfl xv_6b285cca rfl) (cm_C_mono (by omega) hCg) ?_
    refine wk_istore xd_051e84b0 (by rw [xm_9986a20b]; rfl) rfl ?_
    refine wk_iload xd_2f3fb062 rfl ?_
    refine wk_if xd_95665ad6 (t := 39) rfl (fun h => absurd (aw_ne_t hxg1 hb_z h) (by omega)) (fun _ => ?_)
    refine wk_iload xd_ba8e1781 rfl ?_
    refine wk_bipush xd_fd81d28a ?_
    refine wk_icmp xd_7f1574a0 (t := 33) rfl (fun h23_1 => ?_) (fun h23_1 => ?_)
    · have h23_1 := aw_lt_t (a := ((w.1 2 8).toInt : Int)) (b := (13 : Int)) rfl (show (((Int8.ofInt 13).toInt32)).toInt = 13 from by decide) h23_1
      refine wk_aload_n xd_6deac460 rfl ?_
      refine wk_iconst xd_2f14c5a9 ?_
      obtain ⟨wr3_, hCr3_, hVr3_, hBr3_, -⟩ := cs_ref (k := (Int32.ofInt 1)) (c := 1) (ss_c hM) (by decide) (by decide)
      have hVr3_a := ss_V_tr (ss_V_rf w) (ss_V_c hVr3_)
      refine wk_call (kd := 0) (i := 63) xd_dc6e36bf rfl (wk_cal (as := [.inr (.inr (some 2)), .inl (Int32.ofInt 1)]) (t := []) xl_8c0f12fb rfl xn_b5464d7d xc_49a83f99 rfl rfl xv_780065b9 rfl) (cm_C_mono (by omega) hCr3_) ?_
      exact wk_ireturn xd_4a77e33a xr_8bb113d5 wk_z0 ⟨_, _, rfl, hVr3_a, ss_P_e (sp_1no ht) (show ((Int32.ofInt 0)).toInt = 0 from by decide) hBr3_⟩
    · have h23_1 := aw_lt_f (a := ((w.1 2 8).toInt : Int)) (b := (13 : Int)) rfl (show (((Int8.ofInt 13).toInt32)).toInt = 13 from by decide) h23_1
      exfalso
      omega
  obtain ⟨oo, hC, x, w', rfl, a⟩ := h9
  exact ⟨x, w', hC, a⟩
theorem so_zd {T : Nat → Int} {n m : Nat} {h : Nat → Int} {nm : Nat → Nat} {w : cm_W} {q : Int32} {p o st : Nat} (hq : q.toInt = (9 : Int)) (hR : vl_R w 4 h nm) (hM : ss_M w T n m p o st) (hst : st ≤ 2 * o) (ho9 : o ≤ 20) (ht : ¬ sp_no (tx_tk T n m p)) (hk : ((tx_tk T n m p).1 = 3 ∧ (tx_tk T n m p).2.2.2.1 = 40) ∨ (13 ≤ (w.1 2 8).toInt ∧ (w.1 2 8).toInt ≤ 21)) : ∃ x w', cm_C (3 + 1) 69 [.inr (.inr (some 111)), .inr (.inr (some 2)), .inr (.inr (some 4)), .inl q] w (some (.inl x), w') ∧ ss_V w w' ∧ ss_P T n m (sp_one T n m h nm 0 o p) o st x w' := by
  have h9 : ∃ oo, cm_C (3 + 1) 69 [.inr (.inr (some 111)), .inr (.inr (some 2)), .inr (.inr (some 4)), .inl q] w oo ∧ (fun oo : cm_O => ∃ x w', oo = (some (.inl x), w') ∧ ss_V w w' ∧ ss_P T n m (sp_one T n m h nm 0 o p) o st x w') oo := by
    refine wk_entry (by rw [xm_9986a20b]; exact Nat.le_of_ble_eq_true rfl) ?_
    rw [show cm_ent 69 [.inr (.inr (some 111)), .inr (.inr (some 2)), .inr (.inr (some 4)), .inl q] = [some (.inr (.inr (some 111))), some (.inr (.inr (some 2))), some (.inr (.inr (some 4))), some (.inl q), none, none] from by unfold cm_ent; rw [xm_9986a20b]; rfl]
    refine wk_aload_n xd_069516b1 rfl ?_
    refine wk_getI xf_a4947e08 xd_5d0d08c5 ?_
    refine wk_istore xd_8ae2ac79 (by rw [xm_9986a20b]; rfl) rfl ?_
    refine wk_aload_n xd_eb5f64cb rfl ?_
    refine wk_bipush xd_9b99c558 ?_
    obtain ⟨xg, hCg, hxg⟩ := is_ok (w := w) (k := ((Int8.ofInt 40).toInt32)) (c := 40) (by decide) hM.1.2.1
    refine wk_call (kd := 0) (i := 71) xd_2541b38a rfl (wk_cal (as := [.inr (.inr (some 2)), .inl ((Int8.ofInt 40).toInt32)]) (t := []) xl_bb2f47fd rfl xn_f2e637ad xc_3770e809 rfl rfl xv_6b285cca rfl) (cm_C_mono (by omega) hCg) ?_
    refine wk_istore xd_051e84b0 (by rw [xm_9986a20b]; rfl) rfl ?_
    refine wk_iload xd_2f3fb062 rfl ?_
    refine wk_if xd_95665ad6 (t := 39) rfl (fun h16_0 => ?_) (fun h16_0 => ?_)
    · have h16_0 := aw_ne_t (a := ((xg).toInt : Int)) (b := (0 : Int)) rfl hb_z h16_0
      refine wk_aload_n xd_bda57d1f rfl ?_
      refine wk_getI xf_807ad0de xd_bff3330f ?_
      refine wk_bipush xd_611e5b4d ?_
      refine wk_icmp xd_ea1d518c (t := 54) rfl (fun h45_1 => ?_) (fun h45_1 => ?_)
      · have h45_1 := aw_ge_t (a := ((o : Int) : Int)) (b := (20 : Int)) (show ((w.1 111 0)).toInt = ((o : Int) : Int) from hM.2.2.1) (show (((Int8.ofInt 20).toInt32)).toInt = 20 from by decide) h45_1
        refine wk_aload_n xd_ab6e0e9e rfl ?_
        refine wk_iconst xd_1d165c63 ?_
        obtain ⟨wr3_, hCr3_, hVr3_, hBr3_, -⟩ := cs_ref (k := (Int32.ofInt 4)) (c := 4) (ss_c hM) (by decide) (by decide)
        have hVr3_a := ss_V_tr (ss_V_rf w) (ss_V_c hVr3_)
        refine wk_call (kd := 0) (i := 63) xd_be9f6141 rfl (wk_cal (as := [.inr (.inr (some 2)), .inl (Int32.ofInt 4)]) (t := []) xl_8c0f12fb rfl xn_b5464d7d xc_49a83f99 rfl rfl xv_780065b9 rfl) (cm_C_mono (by omega) hCr3_) ?_
        exact wk_ireturn xd_a75c3a24 xr_8bb113d5 wk_z0 ⟨_, _, rfl, hVr3_a, ss_P_e (sp_1z ht) (show ((Int32.ofInt 0)).toInt = 0 from by decide) hBr3_⟩
      · have h45_1 := aw_ge_f (a := ((o : Int) : Int)) (b := (20 : Int)) (show ((w.1 111 0)).toInt = ((o : Int) : Int) from hM.2.2.1) (show (((Int8.ofInt 20).toInt32)).toInt = 20 from by decide) h45_1
        refine wk_iload_n xd_0a6d0901 rfl ?_
        refine wk_bipush xd_4629b18c ?_
        refine wk_icmp xd_d783db82 (t := 60) rfl (fun h => absurd (aw_le_t hq (show (((Int8.ofInt 8).toInt32)).toInt = 8 from by decide) h) (by omega)) (fun _ => ?_)
        refine wk_aload_n xd_ab6e0e9e rfl ?_
        refine wk_iconst xd_1d165c63 ?_
        obtain ⟨wr5_, hCr5_, hVr5_, hBr5_, -⟩ := cs_ref (k := (Int32.ofInt 4)) (c := 4) (ss_c hM) (by decide) (by decide)
        have hVr5_a := ss_V_tr (ss_V_rf w) (ss_V_c hVr5_)
        refine wk_call (kd := 0) (i := 63) xd_be9f6141 rfl (wk_cal (as := [.inr (.inr (some 2)), .inl (Int32.ofInt 4)]) (t := []) xl_8c0f12fb rfl xn_b5464d7d xc_49a83f99 rfl rfl xv_780065b9 rfl) (cm_C_mono (by omega) hCr5_) ?_
        exact wk_ireturn xd_a75c3a24 xr_8bb113d5 wk_z0 ⟨_, _, rfl, hVr5_a, ss_P_e (sp_1z ht) (show ((Int32.ofInt 0)).toInt = 0 from by decide) hBr5_⟩
    · have h16_0 := aw_ne_f (a := ((xg).toInt : Int)) (b := (0 : Int)) rfl hb_z h16_0
      refine wk_iload xd_ba8e1781 rfl ?_
      refine wk_bipush xd_fd81d28a ?_
      refine wk_icmp xd_7f1574a0 (t := 33) rfl (fun h23_5 => ?_) (fun h23_5 => ?_)
      · have h23_5 := aw_lt_t (a := ((w.1 2 8).toInt : Int)) (b := (13 : Int)) rfl (show (((Int8.ofInt 13).toInt32)).toInt = 13 from by decide) h23_5
        exfalso
        omega
      · have h23_5 := aw_lt_f (a := ((w.1 2 8).toInt : Int)) (b := (13 : Int)) rfl (show (((Int8.ofInt 13).toInt32)).toInt = 13 from by decide) h23_5
        refine wk_iload xd_cfe335ef rfl ?_
        refine wk_bipush xd_9a1f5ab6 ?_
        refine wk_icmp xd_bcb3ce8d (t := 39) rfl (fun h30_6 => ?_) (fun h30_6 => ?_)
        · have h30_6 := aw_le_t (a := ((w.1 2 8).toInt : Int)) (b := (21 : Int)) rfl (show (((Int8.ofInt 21).toInt32)).toInt = 21 from by decide) h30_6
          refine wk_aload_n xd_bda57d1f rfl ?_
          refine wk_getI xf_807ad0de xd_bff3330f ?_
          refine wk_bipush xd_611e5b4d ?_
          refine wk_icmp xd_ea1d518c (t := 54) rfl (fun h45_7 => ?_) (fun h45_7 => ?_)
          · have h45_7 := aw_ge_t (a := ((o : Int) : Int)) (b := (20 : Int)) (show ((w.1 111 0)).toInt = ((o : Int) : Int) from hM.2.2.1) (show (((Int8.ofInt 20).toInt32)).toInt = 20 from by decide) h45_7
            refine wk_aload_n xd_ab6e0e9e rfl ?_
            refine wk_iconst xd_1d165c63 ?_
            obtain ⟨wr9_, hCr9_, hVr9_, hBr9_, -⟩ := cs_ref (k := (Int32.ofInt 4)) (c := 4) (ss_c hM) (by decide) (by decide)
            have hVr9_a := ss_V_tr (ss_V_rf w) (ss_V_c hVr9_)
            refine wk_call (kd := 0) (i := 63) xd_be9f6141 rfl (wk_cal (as := [.inr (.inr (some 2)), .inl (Int32.ofInt 4)]) (t := []) xl_8c0f12fb rfl xn_b5464d7d xc_49a83f99 rfl rfl xv_780065b9 rfl) (cm_C_mono (by omega) hCr9_) ?_
            exact wk_ireturn xd_a75c3a24 xr_8bb113d5 wk_z0 ⟨_, _, rfl, hVr9_a, ss_P_e (sp_1z ht) (show ((Int32.ofInt 0)).toInt = 0 from by decide) hBr9_⟩
          · have h45_7 := aw_ge_f (a := ((o : Int) : Int)) (b := (20 : Int)) (show ((w.1 111 0)).toInt = ((o : Int) : Int) from hM.2.2.1) (show (((Int8.ofInt 20).toInt32)).toInt = 20 from by decide) h45_7
            refine wk_iload_n xd_0a6d0901 rfl ?_
            refine wk_bipush xd_4629b18c ?_
            refine wk_icmp xd_d783db82 (t := 60) rfl (fun h => absurd (aw_le_t hq (show (((Int8.ofInt 8).toInt32)).toInt = 8 from by decide) h) (by omega)) (fun _ => ?_)
            refine wk_aload_n xd_ab6e0e9e rfl ?_
            refine wk_iconst xd_1d165c63 ?_
            obtain ⟨wr11_, hCr11_, hVr11_, hBr11_, -⟩ := cs_ref (k := (Int32.ofInt 4)) (c := 4) (ss_c hM) (by decide) (by decide)
            have hVr11_a := ss_V_tr (ss_V_rf w) (ss_V_c hVr11_)
            refine wk_call (kd := 0) (i := 63) xd_be9f6141 rfl (wk_cal (as := [.inr (.inr (some 2)), .inl (Int32.ofInt 4)]) (t := []) xl_8c0f12fb rfl xn_b5464d7d xc_49a83f99 rfl rfl xv_780065b9 rfl) (cm_C_mono (by omega) hCr11_) ?_
            exact wk_ireturn xd_a75c3a24 xr_8bb113d5 wk_z0 ⟨_, _, rfl, hVr11_a, ss_P_e (sp_1z ht) (show ((Int32.ofInt 0)).toInt = 0 from by decide) hBr11_⟩
        · have h30_6 := aw_le_f (a := ((w.1 2 8).toInt : Int)) (b := (21 : Int)) rfl (show (((Int8.ofInt 21).toInt32)).toInt = 21 from by decide) h30_6
          exfalso
          omega
  obtain ⟨oo, hC, x, w', rfl, a⟩ := h9
  exact ⟨x, w', hC, a⟩
theorem so_no {T : Nat → Int} {n m : Nat} {h : Nat → Int} {nm : Nat → Nat} {e : Nat} {w : cm_W} {q : Int32} {p o st : Nat} (hq : q.toInt = ((-1) * (e : Int) + 8 : Int)) (hR : vl_R w 4 h nm) (hM : ss_M w T n m p o st) (hst : st ≤ 2 * o) (ho9 : o ≤ 20) (ht : sp_no (tx_tk T n m p)) (hk : (w.1 2 8).toInt < 13) (he : e ≤ 7) : ∃ x w', cm_C ((5 + 2 * e) + 1) 69 [.inr (.inr (some 111)), .inr (.inr (some 2)), .inr (.inr (some 4)), .inl q] w (some (.inl x), w') ∧ ss_V w w' ∧ ss_P T n m (sp_one T n m h nm (e + 1) o p) o st x w' := by
  have h9 : ∃ oo, cm_C ((5 + 2 * e) + 1) 69 [.inr (.inr (some 111)), .inr (.inr (some 2)), .inr (.inr (some 4)), .inl q] w oo ∧ (fun oo : cm_O => ∃ x w', oo = (some (.inl x), w') ∧ ss_V w w' ∧ ss_P T n m (sp_one T n m h nm (e + 1) o p) o st x w') oo := by
    refine wk_entry (by rw [xm_9986a20b]; exact Nat.le_of_ble_eq_true rfl) ?_
    rw [show cm_ent 69 [.inr (.inr (some 111)), .inr (.inr (some 2)), .inr (.inr (some 4)), .inl q] = [some (.inr (.inr (some 111))), some (.inr (.inr (some 2))), some (.inr (.inr (some 4))), some (.inl q), none, none] from by unfold cm_ent; rw [xm_9986a20b]; rfl]
    refine wk_aload_n xd_069516b1 rfl ?_
    refine wk_getI xf_a4947e08 xd_5d0d08c5 ?_
    refine wk_istore xd_8ae2ac79 (by rw [xm_9986a20b]; rfl) rfl ?_
    refine wk_aload_n xd_eb5f64cb rfl ?_
    refine wk_bipush xd_9b99c558 ?_
    obtain ⟨xg, hCg, hxg⟩ := is_ok (w := w) (k := ((Int8.ofInt 40).toInt32)) (c := 40) (by decide) hM.1.2.1
    have hxg1 : xg.toInt = 0 := by have ht1 := ht.1; omega
    refine wk_call (kd := 0) (i := 71) xd_2541b38a rfl (wk_cal (as := [.inr (.inr (some 2)), .inl ((Int8.ofInt 40).toInt32)]) (t := []) xl_bb2f47fd rfl xn_f2e637ad xc_3770e809 rfl rfl xv_6b285cca rfl) (cm_C_mono (by omega) hCg) ?_
    refine wk_istore xd_051e84b0 (by rw [xm_9986a20b]; rfl) rfl ?_
    refine wk_iload xd_2f3fb062 rfl ?_
    refine wk_if xd_95665ad6 (t := 39) rfl (fun h => absurd (aw_ne_t hxg1 hb_z h) (by omega)) (fun _ => ?_)
    refine wk_iload xd_ba8e1781 rfl ?_
    refine wk_bipush xd_fd81d28a ?_
    refine wk_icmp xd_7f1574a0 (t := 33) rfl (fun h23_1 => ?_) (fun h23_1 => ?_)
    · have h23_1 := aw_lt_t (a := ((w.1 2 8).toInt : Int)) (b := (13 : Int)) rfl (show (((Int8.ofInt 13).toInt32)).toInt = 13 from by decide) h23_1
      refine wk_aload_n xd_6deac460 rfl ?_
      refine wk_iconst xd_2f14c5a9 ?_
      obtain ⟨wr3_, hCr3_, hVr3_, hBr3_, -⟩ := cs_ref (k := (Int32.ofInt 1)) (c := 1) (ss_c hM) (by decide) (by decide)
      have hVr3_a := ss_V_tr (ss_V_rf w) (ss_V_c hVr3_)
      refine wk_call (kd := 0) (i := 63) xd_dc6e36bf rfl (wk_cal (as := [.inr (.inr (some 2)), .inl (Int32.ofInt 1)]) (t := []) xl_8c0f12fb rfl xn_b5464d7d xc_49a83f99 rfl rfl xv_780065b9 rfl) (cm_C_mono (by omega) hCr3_) ?_
      exact wk_ireturn xd_4a77e33a xr_8bb113d5 wk_z0 ⟨_, _, rfl, hVr3_a, ss_P_e (sp_1no ht) (show ((Int32.ofInt 0)).toInt = 0 from by decide) hBr3_⟩
    · have h23_1 := aw_lt_f (a := ((w.1 2 8).toInt : Int)) (b := (13 : Int)) rfl (show (((Int8.ofInt 13).toInt32)).toInt = 13 from by decide) h23_1
      exfalso
      omega
  obtain ⟨oo, hC, x, w', rfl, a⟩ := h9
  exact ⟨x, w', hC, a⟩
theorem so_full {T : Nat → Int} {n m : Nat} {h : Nat → Int} {nm : Nat → Nat} {e : Nat} {w : cm_W} {q : Int32} {p o st : Nat} (hq : q.toInt = ((-1) * (e : Int) + 8 : Int)) (hR : vl_R w 4 h nm) (hM : ss_M w T n m p o st) (hst : st ≤ 2 * o) (ho9 : o ≤ 20) (ht : ¬ sp_no (tx_tk T n m p)) (hk : ((tx_tk T n m p).1 = 3 ∧ (tx_tk T n m p).2.2.2.1 = 40) ∨ (13 ≤ (w.1 2 8).toInt ∧ (w.1 2 8).toInt ≤ 21)) (ho20 : 20 ≤ o) (he : e ≤ 7) : ∃ x w', cm_C ((5 + 2 * e) + 1) 69 [.inr (.inr (some 111)), .inr (.inr (some 2)), .inr (.inr (some 4)), .inl q] w (some (.inl x), w') ∧ ss_V w w' ∧ ss_P T n m (sp_one T n m h nm (e + 1) o p) o st x w' := by
  have h9 : ∃ oo, cm_C ((5 + 2 * e) + 1) 69 [.inr (.inr (some 111)), .inr (.inr (some 2)), .inr (.inr (some 4)), .inl q] w oo ∧ (fun oo : cm_O => ∃ x w', oo = (some (.inl x), w') ∧ ss_V w w' ∧ ss_P T n m (sp_one T n m h nm (e + 1) o p) o st x w') oo := by
    refine wk_entry (by rw [xm_9986a20b]; exact Nat.le_of_ble_eq_true rfl) ?_
    rw [show cm_ent 69 [.inr (.inr (some 111)), .inr (.inr (some 2)), .inr (.inr (some 4)), .inl q] = [some (.inr (.inr (some 111))), some (.inr (.inr (some 2))), some (.inr (.inr (some 4))), some (.inl q), none, none] from by unfold cm_ent; rw [xm_9986a20b]; rfl]
    refine wk_aload_n xd_069516b1 rfl ?_
    refine wk_getI xf_a4947e08 xd_5d0d08c5 ?_
    refine wk_istore xd_8ae2ac79 (by rw [xm_9986a20b]; rfl) rfl ?_
    refine wk_aload_n xd_eb5f64cb rfl ?_
    refine wk_bipush xd_9b99c558 ?_
    obtain ⟨xg, hCg, hxg⟩ := is_ok (w := w) (k := ((Int8.ofInt 40).toInt32)) (c := 40) (by decide) hM.1.2.1
    refine wk_call (kd := 0) (i := 71) xd_2541b38a rfl (wk_cal (as := [.inr (.inr (some 2)), .inl ((Int8.ofInt 40).toInt32)]) (t := []) xl_bb2f47fd rfl xn_f2e637ad xc_3770e809 rfl rfl xv_6b285cca rfl) (cm_C_mono (by omega) hCg) ?_
    refine wk_istore xd_051e84b0 (by rw [xm_9986a20b]; rfl) rfl ?_
    refine wk_iload xd_2f3fb062 rfl ?_
    refine wk_if xd_95665ad6 (t := 39) rfl (fun h16_0 => ?_) (fun h16_0 => ?_)
    · have h16_0 := aw_ne_t (a := ((xg).toInt : Int)) (b := (0 : Int)) rfl hb_z h16_0
      refine wk_aload_n xd_bda57d1f rfl ?_
      refine wk_getI xf_807ad0de xd_bff3330f ?_
      refine wk_bipush xd_611e5b4d ?_
      refine wk_icmp xd_ea1d518c (t := 54) rfl (fun h45_1 => ?_) (fun h45_1 => ?_)
      · have h45_1 := aw_ge_t (a := ((o : Int) : Int)) (b := (20 : Int)) (show ((w.1 111 0)).toInt = ((o : Int) : Int) from hM.2.2.1) (show (((Int8.ofInt 20).toInt32)).toInt = 20 from by decide) h45_1
        refine wk_aload_n xd_ab6e0e9e rfl ?_
        refine wk_iconst xd_1d165c63 ?_
        obtain ⟨wr3_, hCr3_, hVr3_, hBr3_, -⟩ := cs_ref (k := (Int32.ofInt 4)) (c := 4) (ss_c hM) (by decide) (by decide)
        have hVr3_a := ss_V_tr (ss_V_rf w) (ss_V_c hVr3_)
        refine wk_call (kd := 0) (i := 63) xd_be9f6141 rfl (wk_cal (as := [.inr (.inr (some 2)), .inl (Int32.ofInt 4)]) (t := []) xl_8c0f12fb rfl xn_b5464d7d xc_49a83f99 rfl rfl xv_780065b9 rfl) (cm_C_mono (by omega) hCr3_) ?_
        exact wk_ireturn xd_a75c3a24 xr_8bb113d5 wk_z0 ⟨_, _, rfl, hVr3_a, ss_P_e (sp_1f ht (by omega)) (show ((Int32.ofInt 0)).toInt = 0 from by decide) hBr3_⟩
      · have h45_1 := aw_ge_f (a := ((o : Int) : Int)) (b := (20 : Int)) (show ((w.1 111 0)).toInt = ((o : Int) : Int) from hM.2.2.1) (show (((Int8.ofInt 20).toInt32)).toInt = 20 from by decide) h45_1
        exfalso
        omega
    · have h16_0 := aw_ne_f (a := ((xg).toInt : Int)) (b := (0 : Int)) rfl hb_z h16_0
      refine wk_iload xd_ba8e1781 rfl ?_
      refine wk_bipush xd_fd81d28a ?_
      refine wk_icmp xd_7f1574a0 (t := 33) rfl (fun h23_3 => ?_) (fun h23_3 => ?_)
      · have h23_3 := aw_lt_t (a := ((w.1 2 8).toInt : Int)) (b := (13 : Int)) rfl (show (((Int8.ofInt 13).toInt32)).toInt = 13 from by decide) h23_3
        exfalso
        omega
      · have h23_3 := aw_lt_f (a := ((w.1 2 8).toInt : Int)) (b := (13 : Int)) rfl (show (((Int8.ofInt 13).toInt32)).toInt = 13 from by decide) h23_3
        refine wk_iload xd_cfe335ef rfl ?_
        refine wk_bipush xd_9a1f5ab6 ?_
        refine wk_icmp xd_bcb3ce8d (t := 39) rfl (fun h30_4 => ?_) (fun h30_4 => ?_)
        · have h30_4 := aw_le_t (a := ((w.1 2 8).toInt : Int)) (b := (21 : Int)) rfl (show (((Int8.ofInt 21).toInt32)).toInt = 21 from by decide) h30_4
          refine wk_aload_n xd_bda57d1f rfl ?_
          refine wk_getI xf_807ad0de xd_bff3330f ?_
          refine wk_bipush xd_611e5b4d ?_
          refine wk_icmp xd_ea1d518c (t := 54) rfl (fun h45_5 => ?_) (fun h45_5 => ?_)
          · have h45_5 := aw_ge_t (a := ((o : Int) : Int)) (b := (20 : Int)) (show ((w.1 111 0)).toInt = ((o : Int) : Int) from hM.2.2.1) (show (((Int8.ofInt 20).toInt32)).toInt = 20 from by decide) h45_5
            refine wk_aload_n xd_ab6e0e9e rfl ?_
            refine wk_iconst xd_1d165c63 ?_
            obtain ⟨wr7_, hCr7_, hVr7_, hBr7_, -⟩ := cs_ref (k := (Int32.ofInt 4)) (c := 4) (ss_c hM) (by decide) (by decide)
            have hVr7_a := ss_V_tr (ss_V_rf w) (ss_V_c hVr7_)
            refine wk_call (kd := 0) (i := 63) xd_be9f6141 rfl (wk_cal (as := [.inr (.inr (some 2)), .inl (Int32.ofInt 4)]) (t := []) xl_8c0f12fb rfl xn_b5464d7d xc_49a83f99 rfl rfl xv_780065b9 rfl) (cm_C_mono (by omega) hCr7_) ?_
            exact wk_ireturn xd_a75c3a24 xr_8bb113d5 wk_z0 ⟨_, _, rfl, hVr7_a, ss_P_e (sp_1f ht (by omega)) (show ((Int32.ofInt 0)).toInt = 0 from by decide) hBr7_⟩
          · have h45_5 := aw_ge_f (a := ((o : Int) : Int)) (b := (20 : Int)) (show ((w.1 111 0)).toInt = ((o : Int) : Int) from hM.2.2.1) (show (((Int8.ofInt 20).toInt32)).toInt = 20 from by decide) h45_5
            exfalso
            omega
        · have h30_4 := aw_le_f (a := ((w.1 2 8).toInt : Int)) (b := (21 : Int)) rfl (show (((Int8.ofInt 21).toInt32)).toInt = 21 from by decide) h30_4
          exfalso
          omega
  obtain ⟨oo, hC, x, w', rfl, a⟩ := h9
  exact ⟨x, w', hC, a⟩
theorem so_40 {T : Nat → Int} {n m : Nat} {h : Nat → Int} {nm : Nat → Nat} {e : Nat} {w : cm_W} {q : Int32} {p o st : Nat} (hq : q.toInt = ((-1) * (e : Int) + 8 : Int)) (hR : vl_R w 4 h nm) (hM : ss_M w T n m p o st) (hst : st ≤ 2 * o) (ho9 : o ≤ 20) (ht : (tx_tk T n m p).1 = 3 ∧ (tx_tk T n m p).2.2.2.1 = 40) (hk : (w.1 2 8).toInt = -1) (ho20 : ¬ 20 ≤ o) (he : e ≤ 7) (hc : ss_X T n m h nm (5 + 2 * e) 68 (9 - (e : Int)) (fun o p => sp_lp T n m (fun o p => sp_one T n m h nm e o p) 21 o p)) : ∃ x w', cm_C ((5 + 2 * e) + 1) 69 [.inr (.inr (some 111)), .inr (.inr (some 2)), .inr (.inr (some 4)), .inl q] w (some (.inl x), w') ∧ ss_V w w' ∧ ss_P T n m (sp_one T n m h nm (e + 1) o p) o st x w' := by
  have hs : 1 ≤ (tx_tk T n m p).1 ∧ (tx_tk T n m p).1 ≤ 3 := by have := ht.1; omega
  have h9 : ∃ oo, cm_C ((5 + 2 * e) + 1) 69 [.inr (.inr (some 111)), .inr (.inr (some 2)), .inr (.inr (some 4)), .inl q] w oo ∧ (fun oo : cm_O => ∃ x w', oo = (some (.inl x), w') ∧ ss_V w w' ∧ ss_P T n m (sp_one T n m h nm (e + 1) o p) o st x w') oo := by
    refine wk_entry (by rw [xm_9986a20b]; exact Nat.le_of_ble_eq_true rfl) ?_
    rw [show cm_ent 69 [.inr (.inr (some 111)), .inr (.inr (some 2)), .inr (.inr (some 4)), .inl q] = [some (.inr (.inr (some 111))), some (.inr (.inr (some 2))), some (.inr (.inr (some 4))), some (.inl q), none, none] from by unfold cm_ent; rw [xm_9986a20b]; rfl]
    refine wk_aload_n xd_069516b1 rfl ?_
    refine wk_getI xf_a4947e08 xd_5d0d08c5 ?_
    refine wk_istore xd_8ae2ac79 (by rw [xm_9986a20b]; rfl) rfl ?_
    refine wk_aload_n xd_eb5f64cb rfl ?_
    refine wk_bipush xd_9b99c558 ?_
    obtain ⟨xg, hCg, hxg⟩ := is_ok (w := w) (k := ((Int8.ofInt 40).toInt32)) (c := 40) (by decide) hM.1.2.1
    have hxg1 : xg.toInt = 1 := by omega
    refine wk_call (kd := 0) (i := 71) xd_2541b38a rfl (wk_cal (as := [.inr (.inr (some 2)), .inl ((Int8.ofInt 40).toInt32)]) (t := []) xl_bb2f47fd rfl xn_f2e637ad xc_3770e809 rfl rfl xv_6b285cca rfl) (cm_C_mono (by omega) hCg) ?_
    refine wk_istore xd_051e84b0 (by rw [xm_9986a20b]; rfl) rfl ?_
    refine wk_iload xd_2f3fb062 rfl ?_
    refine wk_if xd_95665ad6 (t := 39) rfl (fun _ => ?_) (fun h => absurd (aw_ne_f hxg1 hb_z h) (by omega))
    refine wk_aload_n xd_bda57d1f rfl ?_
    refine wk_getI xf_807ad0de xd_bff3330f ?_
    refine wk_bipush xd_611e5b4d ?_
    refine wk_icmp xd_ea1d518c (t := 54) rfl (fun h45_1 => ?_) (fun h45_1 => ?_)
    · have h45_1 := aw_ge_t (a := ((o : Int) : Int)) (b := (20 : Int)) (show ((w.1 111 0)).toInt = ((o : Int) : Int) from hM.2.2.1) (show (((Int8.ofInt 20).toInt32)).toInt = 20 from by decide) h45_1
      exfalso
      omega
    · have h45_1 := aw_ge_f (a := ((o : Int) : Int)) (b := (20 : Int)) (show ((w.1 111 0)).toInt = ((o : Int) : Int) from hM.2.2.1) (show (((Int8.ofInt 20).toInt32)).toInt = 20 from by decide) h45_1
      refine wk_iload_n xd_0a6d0901 rfl ?_
      refine wk_bipush xd_4629b18c ?_
      refine wk_icmp xd_d783db82 (t := 60) rfl (fun h51_2 => ?_) (fun h51_2 => ?_)
      · have h51_2 := aw_le_t (a := ((-1) * (e : Int) + 8 : Int)) (b := (8 : Int)) hq (show (((Int8.ofInt 8).toInt32)).toInt = 8 from by decide) h51_2
        refine wk_aload_n xd_ce4c2f95 rfl ?_
        refine wk_dup_r xd_5d36eb78 ?_
        refine wk_getI xf_807ad0de xd_3adf5e3d ?_
        refine wk_iconst xd_a313ea2e ?_
        refine aw_iadd (a := ((o : Int) : Int)) (b := (1 : Int)) (e := ((o : Int) + 1 : Int)) xd_0264a2cf (show ((w.1 111 0)).toInt = ((o : Int) : Int) from hM.2.2.1) (show ((Int32.ofInt 1)).toInt = 1 from by decide) (by omega) (by omega) (by omega) (fun v4_ p4_ => ?_)
        refine wk_putI xf_f7b1ce3c (fun ci => wk_fitI ci) xd_dd3828f1 ?_
        have hM5_ : ss_M (cm_u1 w 111 0 v4_) T n m p (o + 1) st := ss_fr hM (fun k i hk => ⟨hs_u1_ne (by omega), rfl⟩) (by rw [hs_u1_self, p4_]; omega) (by rw [hs_u1_ne (by omega)]; exact hM.2.2.2)
        have hV6_ := ss_V_tr (ss_V_rf w) (ss_V_u1 (w := w) (c := 111) (i := 0) (x := v4_) (by omega) (by omega))
        refine wk_aload_n xd_72096302 rfl ?_
        obtain ⟨wn7_, hCn7_, hVn7_, hNn7_⟩ := cs_next (ss_c hM5_) hs
        have hMn7_ := ss_of hM5_ hVn7_ hNn7_
        have hVn7_a := ss_V_tr hV6_ (ss_V_c hVn7_)
        refine wk_call (kd := 0) (i := 60) xd_51d2630b rfl (wk_cal (as := [.inr (.inr (some 2))]) (t := []) xl_76a4e030 rfl xn_568f4fa7 xc_1d38a579 rfl rfl xv_65cfb41b rfl) (cm_C_mono (by omega) hCn7_) ?_
        refine wk_iload xd_5dceeae2 rfl ?_
        refine wk_if xd_66825ce1 (t := 106) rfl (fun h => absurd (aw_eq_t hxg1 hb_z h) (by omega)) (fun _ => ?_)
        refine wk_aload_n xd_d4a3e340 rfl ?_
        refine wk_aload_n xd_911c68cb rfl ?_
        refine wk_aload_n xd_4dcff8cf rfl ?_
        refine wk_iload_n xd_5c493b2f rfl ?_
        refine wk_iconst xd_3c9181f2 ?_
        refine aw_iadd (a := ((-1) * (e : Int) + 8 : Int)) (b := (1 : Int)) (e := ((-1) * (e : Int) + 9 : Int)) xd_93cddfda hq (show ((Int32.ofInt 1)).toInt = 1 from by decide) (by omega) (by omega) (by omega) (fun v9_ p9_ => ?_)
        obtain ⟨xR, wR, hCR, hVR, hPR⟩ := hc wn7_ v9_ (tx_tk T n m p).2.2.1 (o + 1) st (p9_.trans (by omega)) (ss_V_R hVn7_a hR) hMn7_ (by omega) (by omega)
        have hVRa := ss_V_tr hVn7_a hVR
        refine wk_call (kd := 0) (i := 40) xd_b211929f rfl (wk_cal (as := [.inr (.inr (some 111)), .inr (.inr (some 2)), .inr (.inr (some 4)), .inl v9_]) (t := []) xl_1f3fc70f rfl xn_2bf5d959 xc_be4385c8 rfl rfl xv_fa3436ae rfl) (cm_C_mono (by omega) hCR) ?_
        rcases ss_P_c hPR with ⟨k9, q9, er, hxR, hBR⟩ | ⟨o9, p9, st9, er, hxR, hoR, hoR2, hMR, hsR⟩
        · skip
          refine wk_if xd_d37798bc (t := 104) rfl (fun _ => ?_) (fun h => absurd (aw_eq_f hxR hb_z h) (by omega))
          refine wk_iconst xd_a030f2c7 ?_
          exact wk_ireturn xd_1bb39bd0 xr_8bb113d5 wk_z0 ⟨_, _, rfl, hVRa, ss_P_e ((sp_1s40 (by omega) ht).trans (sp_c_e er)) (show ((Int32.ofInt 0)).toInt = 0 from by decide) hBR⟩
        · skip
          refine wk_if xd_d37798bc (t := 104) rfl (fun h => absurd (aw_eq_t hxR hb_z h) (by omega)) (fun _ => ?_)
          refine wk_aload_n xd_8b4ae738 rfl ?_
          refine wk_bipush xd_2b7abcf2 ?_
          obtain ⟨xs, ws, hCs, hs⟩ := ts_ok (k := ((Int8.ofInt 41).toInt32)) (c := 41) (by decide) hMR.1 hMR.2.1
          refine wk_call (kd := 0) (i := 74) xd_f3824d28 rfl (wk_cal (as := [.inr (.inr (some 2)), .inl ((Int8.ofInt 41).toInt32)]) (t := []) xl_ca4c37d6 rfl xn_fe71b019 xc_c4c1f567 rfl rfl xv_89786e0c rfl) (cm_C_mono (by omega) hCs) ?_
          rcases hs with ⟨hs1, hs2, hxs, hLs, hSs⟩ | ⟨hs1, hxs, hBs⟩
          · have hcv : cs_V wR ws := cs_V_E (rd_E_S hSs)
            have hMs : ss_M ws T n m (tx_tk T n m p9).2.2.1 o9 st9 := ⟨hLs, by rw [(hSs 2 11 (by omega)).1]; exact hMR.2.1, by rw [(hSs 111 0 (by omega)).1]; exact hMR.2.2.1, by rw [(hSs 111 1 (by omega)).1]; exact hMR.2.2.2⟩
            have hVs := ss_V_tr hVRa (ss_V_c hcv)
            refine wk_if xd_68137964 (t := 104) rfl (fun h => absurd (aw_eq_t hxs hb_z h) (by omega)) (fun _ => ?_)
            refine wk_iconst xd_c1f14877 ?_
            refine wk_goto xd_a443d8ac (t := 105) rfl ?_
            exact wk_ireturn xd_1bb39bd0 xr_8bb113d5 wk_z1 ⟨_, _, rfl, hVs, ss_P_y ((sp_1s40 (by omega) ht).trans (sp_c_y er ⟨hs1, hs2⟩)) (show ((Int32.ofInt 1)).toInt = 1 from by decide) (by omega) (by omega) hMs (by omega)⟩
          · have hVs := ss_V_tr hVRa (ss_V_c (cs_V_E (rd_E_B hBs)))
            refine wk_if xd_68137964 (t := 104) rfl (fun _ => ?_) (fun h => absurd (aw_eq_f hxs hb_z h) (by omega))
            refine wk_iconst xd_a030f2c7 ?_
            exact wk_ireturn xd_1bb39bd0 xr_8bb113d5 wk_z0 ⟨_, _, rfl, hVs, ss_P_e ((sp_1s40 (by omega) ht).trans (sp_c_n er hs1)) (show ((Int32.ofInt 0)).toInt = 0 from by decide) (cs_B_B hBs (by omega))⟩
      · have h51_2 := aw_le_f (a := ((-1) * (e : Int) + 8 : Int)) (b := (8 : Int)) hq (show (((Int8.ofInt 8).toInt32)).toInt = 8 from by decide) h51_2
        exfalso
        omega
  obtain ⟨oo, hC, x, w', rfl, a⟩ := h9
  exact ⟨x, w', hC, a⟩
theorem so_13 {T : Nat → Int} {n m : Nat} {h : Nat → Int} {nm : Nat → Nat} {e : Nat} {w : cm_W} {q : Int32} {p o st : Nat} (hq : q.toInt = ((-1) * (e : Int) + 8 : Int)) (hR : vl_R w 4 h nm) (hM : ss_M w T n m p o st) (hst : st ≤ 2 * o) (ho9 : o ≤ 20) (ht : ps_wd (tx_tk T n m p) 13) (hk : (w.1 2 8).toInt = 13) (ho20 : ¬ 20 ≤ o) (he : e ≤ 7) (ho : ss_X T n m h nm (5 + 2 * e) 69 (9 - (e : Int)) (fun o p => sp_one T n m h nm e o p)) : ∃ x w', cm_C ((5 + 2 * e) + 1) 69 [.inr (.inr (some 111)), .inr (.inr (some 2)), .inr (.inr (some 4)), .inl q] w (some (.inl x), w') ∧ ss_V w w' ∧ ss_P T n m (sp_one T n m h nm (e + 1) o p) o st x w' := by
  have hs : 1 ≤ (tx_tk T n m p).1 ∧ (tx_tk T n m p).1 ≤ 3 := by have := ht.1; omega
  have ht3 : (tx_tk T n m p).1 = 1 := ht.1
  have h9 : ∃ oo, cm_C ((5 + 2 * e) + 1) 69 [.inr (.inr (some 111)), .inr (.inr (some 2)), .inr (.inr (some 4)), .inl q] w oo ∧ (fun oo : cm_O => ∃ x w', oo = (some (.inl x), w') ∧ ss_V w w' ∧ ss_P T n m (sp_one T n m h nm (e + 1) o p) o st x w') oo := by
    refine wk_entry (by rw [xm_9986a20b]; exact Nat.le_of_ble_eq_true rfl) ?_
    rw [show cm_ent 69 [.inr (.inr (some 111)), .inr (.inr (some 2)), .inr (.inr (some 4)), .inl q] = [some (.inr (.inr (some 111))), some (.inr (.inr (some 2))), some (.inr (.inr (some 4))), some (.inl q), none, none] from by unfold cm_ent; rw [xm_9986a20b]; rfl]
    refine wk_aload_n xd_069516b1 rfl ?_
    refine wk_getI xf_a4947e08 xd_5d0d08c5 ?_
    refine wk_istore xd_8ae2ac79 (by rw [xm_9986a20b]; rfl) rfl ?_
    refine wk_aload_n xd_eb5f64cb rfl ?_
    refine wk_bipush xd_9b99c558 ?_
    obtain ⟨xg, hCg, hxg⟩ := is_ok (w := w) (k := ((Int8.ofInt 40).toInt32)) (c := 40) (by decide) hM.1.2.1
    have hxg1 : xg.toInt = 0 := by omega
    refine wk_call (kd := 0) (i := 71) xd_2541b38a rfl (wk_cal (as := [.inr (.inr (some 2)), .inl ((Int8.ofInt 40).toInt32)]) (t := []) xl_bb2f47fd rfl xn_f2e637ad xc_3770e809 rfl rfl xv_6b285cca rfl) (cm_C_mono (by omega) hCg) ?_
    refine wk_istore xd_051e84b0 (by rw [xm_9986a20b]; rfl) rfl ?_
    refine wk_iload xd_2f3fb062 rfl ?_
    refine wk_if xd_95665ad6 (t := 39) rfl (fun h => absurd (aw_ne_t hxg1 hb_z h) (by omega)) (fun _ => ?_)
    refine wk_iload xd_ba8e1781 rfl ?_
    refine wk_bipush xd_fd81d28a ?_
    refine wk_icmp xd_7f1574a0 (t := 33) rfl (fun h => absurd (aw_lt_t (show ((w.1 2 8)).toInt = (13 : Int) from hk) (show (((Int8.ofInt 13).toInt32)).toInt = 13 from by decide) h) (by omega)) (fun _ => ?_)
    refine wk_iload xd_cfe335ef rfl ?_
    refine wk_bipush xd_9a1f5ab6 ?_
    refine wk_icmp xd_bcb3ce8d (t := 39) rfl (fun _ => ?_) (fun h => absurd (aw_le_f (show ((w.1 2 8)).toInt = (13 : Int) from hk) (show (((Int8.ofInt 21).toInt32)).toInt = 21 from by decide) h) (by omega))
    refine wk_aload_n xd_bda57d1f rfl ?_
    refine wk_getI xf_807ad0de xd_bff3330f ?_
    refine wk_bipush xd_611e5b4d ?_
    refine wk_icmp xd_ea1d518c (t := 54) rfl (fun h45_3 => ?_) (fun h45_3 => ?_)
    · have h45_3 := aw_ge_t (a := ((o : Int) : Int)) (b := (20 : Int)) (show ((w.1 111 0)).toInt = ((o : Int) : Int) from hM.2.2.1) (show (((Int8.ofInt 20).toInt32)).toInt = 20 from by decide) h45_3
      exfalso
      omega
    · have h45_3 := aw_ge_f (a := ((o : Int) : Int)) (b := (20 : Int)) (show ((w.1 111 0)).toInt = ((o : Int) : Int) from hM.2.2.1) (show (((Int8.ofInt 20).toInt32)).toInt = 20 from by decide) h45_3
      refine wk_iload_n xd_0a6d0901 rfl ?_
      refine wk_bipush xd_4629b18c ?_
      refine wk_icmp xd_d783db82 (t := 60) rfl (fun h51_4 => ?_) (fun h51_4 => ?_)
      · have h51_4 := aw_le_t (a := ((-1) * (e : Int) + 8 : Int)) (b := (8 : Int)) hq (show (((Int8.ofInt 8).toInt32)).toInt = 8 from by decide) h51_4
        refine wk_aload_n xd_ce4c2f95 rfl ?_
        refine wk_dup_r xd_5d36eb78 ?_
        refine wk_getI xf_807ad0de xd_3adf5e3d ?_
        refine wk_iconst xd_a313ea2e ?_
        refine aw_iadd (a := ((o : Int) : Int)) (b := (1 : Int)) (e := ((o : Int) + 1 : Int)) xd_0264a2cf (show ((w.1 111 0)).toInt = ((o : Int) : Int) from hM.2.2.1) (show ((Int32.ofInt 1)).toInt = 1 from by decide) (by omega) (by omega) (by omega) (fun v6_ p6_ => ?_)
        refine wk_putI xf_f7b1ce3c (fun ci => wk_fitI ci) xd_dd3828f1 ?_
        have hM7_ : ss_M (cm_u1 w 111 0 v6_) T n m p (o + 1) st := ss_fr hM (fun k i hk => ⟨hs_u1_ne (by omega), rfl⟩) (by rw [hs_u1_self, p6_]; omega) (by rw [hs_u1_ne (by omega)]; exact hM.2.2.2)
        have hV8_ := ss_V_tr (ss_V_rf w) (ss_V_u1 (w := w) (c := 111) (i := 0) (x := v6_) (by omega) (by omega))
        refine wk_aload_n xd_72096302 rfl ?_
        obtain ⟨wn9_, hCn9_, hVn9_, hNn9_⟩ := cs_next (ss_c hM7_) hs
        have hMn9_ := ss_of hM7_ hVn9_ hNn9_
        have hVn9_a := ss_V_tr hV8_ (ss_V_c hVn9_)
        refine wk_call (kd := 0) (i := 60) xd_51d2630b rfl (wk_cal (as := [.inr (.inr (some 2))]) (t := []) xl_76a4e030 rfl xn_568f4fa7 xc_1d38a579 rfl rfl xv_65cfb41b rfl) (cm_C_mono (by omega) hCn9_) ?_
        refine wk_iload xd_5dceeae2 rfl ?_
        refine wk_if xd_66825ce1 (t := 106) rfl (fun _ => ?_) (fun h => absurd (aw_eq_f hxg1 hb_z h) (by omega))
        refine wk_iload xd_21dea796 rfl ?_
        refine ax_tsw (j := 0) (t := 144) xd_a182db99 (by have := (show ((w.1 2 8)).toInt = (13 : Int) from hk); omega) (by have := (show ((w.1 2 8)).toInt = (13 : Int) from hk); omega) (by have := (show ((w.1 2 8)).toInt = (13 : Int) from hk); omega) rfl rfl ?_
        refine wk_aload_n xd_2eec50ec rfl ?_
        refine wk_aload_n xd_88ff9388 rfl ?_
        refine wk_aload_n xd_b9bad065 rfl ?_
        refine wk_iload_n xd_45aac06c rfl ?_
        refine wk_iconst xd_78eecfe4 ?_
        refine aw_iadd (a := ((-1) * (e : Int) + 8 : Int)) (b := (1 : Int)) (e := ((-1) * (e : Int) + 9 : Int)) xd_b36f2f37 hq (show ((Int32.ofInt 1)).toInt = 1 from by decide) (by omega) (by omega) (by omega) (fun v11_ p11_ => ?_)
        obtain ⟨xR, wR, hCR, hVR, hPR⟩ := ho wn9_ v11_ (tx_tk T n m p).2.2.1 (o + 1) st (p11_.trans (by omega)) (ss_V_R hVn9_a hR) hMn9_ (by omega) (by omega)
        have hVRa := ss_V_tr hVn9_a hVR
        refine wk_call (kd := 0) (i := 50) xd_3f798acf rfl (wk_cal (as := [.inr (.inr (some 111)), .inr (.inr (some 2)), .inr (.inr (some 4)), .inl v11_]) (t := []) xl_b6af32ec rfl xn_1695f0e9 xc_940bc8b8 rfl rfl xv_ccc6a65d rfl) (cm_C_mono (by omega) hCR) ?_
        rcases ss_P_c hPR with ⟨k9, q9, er, hxR, hBR⟩ | ⟨o9, p9, st9, er, hxR, hoR, hoR2, hMR, hsR⟩
        · skip
          refine wk_if xd_32213380 (t := 171) rfl (fun _ => ?_) (fun h => absurd (aw_eq_f hxR hb_z h) (by omega))
          refine wk_iconst xd_9d009da9 ?_
          exact wk_ireturn xd_178d23c8 xr_8bb113d5 wk_z0 ⟨_, _, rfl, hVRa, ss_P_e ((sp_1s13 (by omega) ht).trans er) (show ((Int32.ofInt 0)).toInt = 0 from by decide) hBR⟩
        · skip
          refine wk_if xd_32213380 (t := 171) rfl (fun h => absurd (aw_eq_t hxR hb_z h) (by omega)) (fun _ => ?_)
          refine wk_aload_n xd_425fe622 rfl ?_
          refine wk_bipush xd_18948562 ?_
          refine wk_iconst xd_c9d56840 ?_
          refine wk_iconst xd_115b13bd ?_
          obtain ⟨xa, wa, hCa, f1, f2, fa⟩ := ss_add (w := wR) (a := ((Int8.ofInt 13).toInt32)) (b := (Int32.ofInt 0)) (c := (Int32.ofInt 0)) hMR.2.2.2
          have e9 : ((Int32.ofInt 0)).toInt = (0 : Int) := (show ((Int32.ofInt 0)).toInt = 0 from by decide)
          refine wk_call (kd := 0) (i := 67) xd_2485fe0a rfl (wk_cal (as := [.inr (.inr (some 111)), .inl ((Int8.ofInt 13).toInt32), .inl (Int32.ofInt 0), .inl (Int32.ofInt 0)]) (t := []) xl_d7306f85 rfl xn_2a723c9c xc_62d23603 rfl rfl xv_f554e49c rfl) (cm_C_mono (by omega) hCa) ?_
          rcases fa with ⟨_, _, hxa, ea⟩ | ⟨z, _⟩
          rotate_left
          · omega
          have hMa : ss_M wa T n m p9 o9 (st9 + 1) := ss_fr hMR (fun k i hk => ⟨f1 k i (by omega) (by omega), by rw [f2]⟩) (by rw [f1 111 0 (by omega) (by omega)]; exact hMR.2.2.1) ea
          have hVa := ss_V_tr hVRa (show ss_V wR wa from fun k i _ _ a => ⟨f1 k i (by omega) (by omega), by rw [f2]⟩)
          refine wk_if xd_58ce3122 (t := 171) rfl (fun h => absurd (aw_eq_t hxa hb_z h) (by omega)) (fun _ => ?_)
          refine wk_iconst xd_49e2044d ?_
          refine wk_goto xd_aac2309e (t := 172) rfl ?_
          exact wk_ireturn xd_178d23c8 xr_8bb113d5 wk_z1 ⟨_, _, rfl, hVa, ss_P_y ((sp_1s13 (by omega) ht).trans er) (show ((Int32.ofInt 1)).toInt = 1 from by decide) (by omega) (by omega) hMa (by omega)⟩
      · have h51_4 := aw_le_f (a := ((-1) * (e : Int) + 8 : Int)) (b := (8 : Int)) hq (show (((Int8.ofInt 8).toInt32)).toInt = 8 from by decide) h51_4
        exfalso
        omega
  obtain ⟨oo, hC, x, w', rfl, a⟩ := h9
  exact ⟨x, w', hC, a⟩
theorem so_14 {T : Nat → Int} {n m : Nat} {h : Nat → Int} {nm : Nat → Nat} {e : Nat} {w : cm_W} {q : Int32} {p o st : Nat} (hq : q.toInt = ((-1) * (e : Int) + 8 : Int)) (hR : vl_R w 4 h nm) (hM : ss_M w T n m p o st) (hst : st ≤ 2 * o) (ho9 : o ≤ 20) (ht : ps_wd (tx_tk T n m p) 14) (hk : (w.1 2 8).toInt = 14) (ho20 : ¬ 20 ≤ o) (he : e ≤ 7) : ∃ x w', cm_C ((5 + 2 * e) + 1) 69 [.inr (.inr (some 111)), .inr (.inr (some 2)), .inr (.inr (some 4)), .inl q] w (some (.inl x), w') ∧ ss_V w w' ∧ ss_P T n m (sp_one T n m h nm (e + 1) o p) o st x w' := by
  have hs : 1 ≤ (tx_tk T n m p).1 ∧ (tx_tk T n m p).1 ≤ 3 := by have := ht.1; omega
  have ht3 : (tx_tk T n m p).1 = 1 := ht.1
  have h9 : ∃ oo, cm_C ((5 + 2 * e) + 1) 69 [.inr (.inr (some 111)), .inr (.inr (some 2)), .inr (.inr (some 4)), .inl q] w oo ∧ (fun oo : cm_O => ∃ x w', oo = (some (.inl x), w') ∧ ss_V w w' ∧ ss_P T n m (sp_one T n m h nm (e + 1) o p) o st x w') oo := by
    refine wk_entry (by rw [xm_9986a20b]; exact Nat.le_of_ble_eq_true rfl) ?_
    rw [show cm_ent 69 [.inr (.inr (some 111)), .inr (.inr (some 2)), .inr (.inr (some 4)), .inl q] = [some (.inr (.inr (some 111))), some (.inr (.inr (some 2))), some (.inr (.inr (some 4))), some (.inl q), none, none] from by unfold cm_ent; rw [xm_9986a20b]; rfl]
    refine wk_aload_n xd_069516b1 rfl ?_
    refine wk_getI xf_a4947e08 xd_5d0d08c5 ?_
    refine wk_istore xd_8ae2ac79 (by rw [xm_9986a20b]; rfl) rfl ?_
    refine wk_aload_n xd_eb5f64cb rfl ?_
    refine wk_bipush xd_9b99c558 ?_
    obtain ⟨xg, hCg, hxg⟩ := is_ok (w := w) (k := ((Int8.ofInt 40).toInt32)) (c := 40) (by decide) hM.1.2.1
    have hxg1 : xg.toInt = 0 := by omega
    refine wk_call (kd := 0) (i := 71) xd_2541b38a rfl (wk_cal (as := [.inr (.inr (some 2)), .inl ((Int8.ofInt 40).toInt32)]) (t := []) xl_bb2f47fd rfl xn_f2e637ad xc_3770e809 rfl rfl xv_6b285cca rfl) (cm_C_mono (by omega) hCg) ?_
    refine wk_istore xd_051e84b0 (by rw [xm_9986a20b]; rfl) rfl ?_
    refine wk_iload xd_2f3fb062 rfl ?_
    refine wk_if xd_95665ad6 (t := 39) rfl (fun h => absurd (aw_ne_t hxg1 hb_z h) (by omega)) (fun _ => ?_)
    refine wk_iload xd_ba8e1781 rfl ?_
    refine wk_bipush xd_fd81d28a ?_
    refine wk_icmp xd_7f1574a0 (t := 33) rfl (fun h => absurd (aw_lt_t (show ((w.1 2 8)).toInt = (14 : Int) from hk) (show (((Int8.ofInt 13).toInt32)).toInt = 13 from by decide) h) (by omega)) (fun _ => ?_)
    refine wk_iload xd_cfe335ef rfl ?_
    refine wk_bipush xd_9a1f5ab6 ?_
    refine wk_icmp xd_bcb3ce8d (t := 39) rfl (fun _ => ?_) (fun h => absurd (aw_le_f (show ((w.1 2 8)).toInt = (14 : Int) from hk) (show (((Int8.ofInt 21).toInt32)).toInt = 21 from by decide) h) (by omega))
    refine wk_aload_n xd_bda57d1f rfl ?_
    refine wk_getI xf_807ad0de xd_bff3330f ?_
    refine wk_bipush xd_611e5b4d ?_
    refine wk_icmp xd_ea1d518c (t := 54) rfl (fun h45_3 => ?_) (fun h45_3 => ?_)
    · have h45_3 := aw_ge_t (a := ((o : Int) : Int)) (b := (20 : Int)) (show ((w.1 111 0)).toInt = ((o : Int) : Int) from hM.2.2.1) (show (((Int8.ofInt 20).toInt32)).toInt = 20 from by decide) h45_3
      exfalso
      omega
    · have h45_3 := aw_ge_f (a := ((o : Int) : Int)) (b := (20 : Int)) (show ((w.1 111 0)).toInt = ((o : Int) : Int) from hM.2.2.1) (show (((Int8.ofInt 20).toInt32)).toInt = 20 from by decide) h45_3
      refine wk_iload_n xd_0a6d0901 rfl ?_
      refine wk_bipush xd_4629b18c ?_
      refine wk_icmp xd_d783db82 (t := 60) rfl (fun h51_4 => ?_) (fun h51_4 => ?_)
      · have h51_4 := aw_le_t (a := ((-1) * (e : Int) + 8 : Int)) (b := (8 : Int)) hq (show (((Int8.ofInt 8).toInt32)).toInt = 8 from by decide) h51_4
        refine wk_aload_n xd_ce4c2f95 rfl ?_
        refine wk_dup_r xd_5d36eb78 ?_
        refine wk_getI xf_807ad0de xd_3adf5e3d ?_
        refine wk_iconst xd_a313ea2e ?_
        refine aw_iadd (a := ((o : Int) : Int)) (b := (1 : Int)) (e := ((o : Int) + 1 : Int)) xd_0264a2cf (show ((w.1 111 0)).toInt = ((o : Int) : Int) from hM.2.2.1) (show ((Int32.ofInt 1)).toInt = 1 from by decide) (by omega) (by omega) (by omega) (fun v6_ p6_ => ?_)
        refine wk_putI xf_f7b1ce3c (fun ci => wk_fitI ci) xd_dd3828f1 ?_
        have hM7_ : ss_M (cm_u1 w 111 0 v6_) T n m p (o + 1) st := ss_fr hM (fun k i hk => ⟨hs_u1_ne (by omega), rfl⟩) (by rw [hs_u1_self, p6_]; omega) (by rw [hs_u1_ne (by omega)]; exact hM.2.2.2)
        have hV8_ := ss_V_tr (ss_V_rf w) (ss_V_u1 (w := w) (c := 111) (i := 0) (x := v6_) (by omega) (by omega))
        refine wk_aload_n xd_72096302 rfl ?_
        obtain ⟨wn9_, hCn9_, hVn9_, hNn9_⟩ := cs_next (ss_c hM7_) hs
        have hMn9_ := ss_of hM7_ hVn9_ hNn9_
        have hVn9_a := ss_V_tr hV8_ (ss_V_c hVn9_)
        refine wk_call (kd := 0) (i := 60) xd_51d2630b rfl (wk_cal (as := [.inr (.inr (some 2))]) (t := []) xl_76a4e030 rfl xn_568f4fa7 xc_1d38a579 rfl rfl xv_65cfb41b rfl) (cm_C_mono (by omega) hCn9_) ?_
        refine wk_iload xd_5dceeae2 rfl ?_
        refine wk_if xd_66825ce1 (t := 106) rfl (fun _ => ?_) (fun h => absurd (aw_eq_f hxg1 hb_z h) (by omega))
        refine wk_iload xd_21dea796 rfl ?_
        refine ax_tsw (j := 1) (t := 173) xd_a182db99 (by have := (show ((w.1 2 8)).toInt = (14 : Int) from hk); omega) (by have := (show ((w.1 2 8)).toInt = (14 : Int) from hk); omega) (by have := (show ((w.1 2 8)).toInt = (14 : Int) from hk); omega) rfl rfl ?_
        refine wk_aload_n xd_004b616a rfl ?_
        refine wk_iload xd_a0c398ab rfl ?_
        refine wk_iconst xd_f8d9a3e9 ?_
        refine wk_iconst xd_eff1c729 ?_
        obtain ⟨xa, wa, hCa, f1, f2, fa⟩ := ss_add (w := wn9_) (a := (w.1 2 8)) (b := (Int32.ofInt 0)) (c := (Int32.ofInt 0)) hMn9_.2.2.2
        have e9 : ((Int32.ofInt 0)).toInt = (0 : Int) := (show ((Int32.ofInt 0)).toInt = 0 from by decide)
        refine wk_call (kd := 0) (i := 67) xd_2e74ebd2 rfl (wk_cal (as := [.inr (.inr (some 111)), .inl (w.1 2 8), .inl (Int32.ofInt 0), .inl (Int32.ofInt 0)]) (t := []) xl_d7306f85 rfl xn_2a723c9c xc_62d23603 rfl rfl xv_f554e49c rfl) (cm_C_mono (by omega) hCa) ?_
        rcases fa with ⟨_, _, hxa, ea⟩ | ⟨z, _⟩
        rotate_left
        · omega
        have hMa : ss_M wa T n m (tx_tk T n m p).2.2.1 (o + 1) (st + 1) := ss_fr hMn9_ (fun k i hk => ⟨f1 k i (by omega) (by omega), by rw [f2]⟩) (by rw [f1 111 0 (by omega) (by omega)]; exact hMn9_.2.2.1) ea
        have hVa := ss_V_tr hVn9_a (show ss_V wn9_ wa from fun k i _ _ a => ⟨f1 k i (by omega) (by omega), by rw [f2]⟩)
        exact wk_ireturn xd_b009b96b xr_8bb113d5 (aw_bit (by have := hxa; omega) (by have := hxa; omega)) ⟨_, _, rfl, hVa, ss_P_y (sp_1s14 (by omega) ht) hxa (by omega) (by omega) hMa (by omega)⟩
      · have h51_4 := aw_le_f (a := ((-1) * (e : Int) + 8 : Int)) (b := (8 : Int)) hq (show (((Int8.ofInt 8).toInt32)).toInt = 8 from by decide) h51_4
        exfalso
        omega
  obtain ⟨oo, hC, x, w', rfl, a⟩ := h9
  exact ⟨x, w', hC, a⟩
theorem so_15 {T : Nat → Int} {n m : Nat} {h : Nat → Int} {nm : Nat → Nat} {e : Nat} {w : cm_W} {q : Int32} {p o st : Nat} (hq : q.toInt = ((-1) * (e : Int) + 8 : Int)) (hR : vl_R w 4 h nm) (hM : ss_M w T n m p o st) (hst : st ≤ 2 * o) (ho9 : o ≤ 20) (ht : ps_wd (tx_tk T n m p) 15) (hk : (w.1 2 8).toInt = 15) (ho20 : ¬ 20 ≤ o) (he : e ≤ 7) : ∃ x w', cm_C ((5 + 2 * e) + 1) 69 [.inr (.inr (some 111)), .inr (.inr (some 2)), .inr (.inr (some 4)), .inl q] w (some (.inl x), w') ∧ ss_V w w' ∧ ss_P T n m (sp_one T n m h nm (e + 1) o p) o st x w' := by
  have hs : 1 ≤ (tx_tk T n m p).1 ∧ (tx_tk T n m p).1 ≤ 3 := by have := ht.1; omega
  have ht3 : (tx_tk T n m p).1 = 1 := ht.1
  have h9 : ∃ oo, cm_C ((5 + 2 * e) + 1) 69 [.inr (.inr (some 111)), .inr (.inr (some 2)), .inr (.inr (some 4)), .inl q] w oo ∧ (fun oo : cm_O => ∃ x w', oo = (some (.inl x), w') ∧ ss_V w w' ∧ ss_P T n m (sp_one T n m h nm (e + 1) o p) o st x w') oo := by
    refine wk_entry (by rw [xm_9986a20b]; exact Nat.le_of_ble_eq_true rfl) ?_
    rw [show cm_ent 69 [.inr (.inr (some 111)), .inr (.inr (some 2)), .inr (.inr (some 4)), .inl q] = [some (.inr (.inr (some 111))), some (.inr (.inr (some 2))), some (.inr (.inr (some 4))), some (.inl q), none, none] from by unfold cm_ent; rw [xm_9986a20b]; rfl]
    refine wk_aload_n xd_069516b1 rfl ?_
    refine wk_getI xf_a4947e08 xd_5d0d08c5 ?_
    refine wk_istore xd_8ae2ac79 (by rw [xm_9986a20b]; rfl) rfl ?_
    refine wk_aload_n xd_eb5f64cb rfl ?_
    refine wk_bipush xd_9b99c558 ?_
    obtain ⟨xg, hCg, hxg⟩ := is_ok (w := w) (k := ((Int8.ofInt 40).toInt32)) (c := 40) (by decide) hM.1.2.1
    have hxg1 : xg.toInt = 0 := by omega
    refine wk_call (kd := 0) (i := 71) xd_2541b38a rfl (wk_cal (as := [.inr (.inr (some 2)), .inl ((Int8.ofInt 40).toInt32)]) (t := []) xl_bb2f47fd rfl xn_f2e637ad xc_3770e809 rfl rfl xv_6b285cca rfl) (cm_C_mono (by omega) hCg) ?_
    refine wk_istore xd_051e84b0 (by rw [xm_9986a20b]; rfl) rfl ?_
    refine wk_iload xd_2f3fb062 rfl ?_
    refine wk_if xd_95665ad6 (t := 39) rfl (fun h => absurd (aw_ne_t hxg1 hb_z h) (by omega)) (fun _ => ?_)
    refine wk_iload xd_ba8e1781 rfl ?_
    refine wk_bipush xd_fd81d28a ?_
    refine wk_icmp xd_7f1574a0 (t := 33) rfl (fun h => absurd (aw_lt_t (show ((w.1 2 8)).toInt = (15 : Int) from hk) (show (((Int8.ofInt 13).toInt32)).toInt = 13 from by decide) h) (by omega)) (fun _ => ?_)
    refine wk_iload xd_cfe335ef rfl ?_
    refine wk_bipush xd_9a1f5ab6 ?_
    refine wk_icmp xd_bcb3ce8d (t := 39) rfl (fun _ => ?_) (fun h => absurd (aw_le_f (show ((w.1 2 8)).toInt = (15 : Int) from hk) (show (((Int8.ofInt 21).toInt32)).toInt = 21 from by decide) h) (by omega))
    refine wk_aload_n xd_bda57d1f rfl ?_
    refine wk_getI xf_807ad0de xd_bff3330f ?_
    refine wk_bipush xd_611e5b4d ?_
    refine wk_icmp xd_ea1d518c (t := 54) rfl (fun h45_3 => ?_) (fun h45_3 => ?_)
    · have h45_3 := aw_ge_t (a := ((o : Int) : Int)) (b := (20 : Int)) (show ((w.1 111 0)).toInt = ((o : Int) : Int) from hM.2.2.1) (show (((Int8.ofInt 20).toInt32)).toInt = 20 from by decide) h45_3
      exfalso
      omega
    · have h45_3 := aw_ge_f (a := ((o : Int) : Int)) (b := (20 : Int)) (show ((w.1 111 0)).toInt = ((o : Int) : Int) from hM.2.2.1) (show (((Int8.ofInt 20).toInt32)).toInt = 20 from by decide) h45_3
      refine wk_iload_n xd_0a6d0901 rfl ?_
      refine wk_bipush xd_4629b18c ?_
      refine wk_icmp xd_d783db82 (t := 60) rfl (fun h51_4 => ?_) (fun h51_4 => ?_)
      · have h51_4 := aw_le_t (a := ((-1) * (e : Int) + 8 : Int)) (b := (8 : Int)) hq (show (((Int8.ofInt 8).toInt32)).toInt = 8 from by decide) h51_4
        refine wk_aload_n xd_ce4c2f95 rfl ?_
        refine wk_dup_r xd_5d36eb78 ?_
        refine wk_getI xf_807ad0de xd_3adf5e3d ?_
        refine wk_iconst xd_a313ea2e ?_
        refine aw_iadd (a := ((o : Int) : Int)) (b := (1 : Int)) (e := ((o : Int) + 1 : Int)) xd_0264a2cf (show ((w.1 111 0)).toInt = ((o : Int) : Int) from hM.2.2.1) (show ((Int32.ofInt 1)).toInt = 1 from by decide) (by omega) (by omega) (by omega) (fun v6_ p6_ => ?_)
        refine wk_putI xf_f7b1ce3c (fun ci => wk_fitI ci) xd_dd3828f1 ?_
        have hM7_ : ss_M (cm_u1 w 111 0 v6_) T n m p (o + 1) st := ss_fr hM (fun k i hk => ⟨hs_u1_ne (by omega), rfl⟩) (by rw [hs_u1_self, p6_]; omega) (by rw [hs_u1_ne (by omega)]; exact hM.2.2.2)
        have hV8_ := ss_V_tr (ss_V_rf w) (ss_V_u1 (w := w) (c := 111) (i := 0) (x := v6_) (by omega) (by omega))
        refine wk_aload_n xd_72096302 rfl ?_
        obtain ⟨wn9_, hCn9_, hVn9_, hNn9_⟩ := cs_next (ss_c hM7_) hs
        have hMn9_ := ss_of hM7_ hVn9_ hNn9_
        have hVn9_a := ss_V_tr hV8_ (ss_V_c hVn9_)
        refine wk_call (kd := 0) (i := 60) xd_51d2630b rfl (wk_cal (as := [.inr (.inr (some 2))]) (t := []) xl_76a4e030 rfl xn_568f4fa7 xc_1d38a579 rfl rfl xv_65cfb41b rfl) (cm_C_mono (by omega) hCn9_) ?_
        refine wk_iload xd_5dceeae2 rfl ?_
        refine wk_if xd_66825ce1 (t := 106) rfl (fun _ => ?_) (fun h => absurd (aw_eq_f hxg1 hb_z h) (by omega))
        refine wk_iload xd_21dea796 rfl ?_
        refine ax_tsw (j := 2) (t := 173) xd_a182db99 (by have := (show ((w.1 2 8)).toInt = (15 : Int) from hk); omega) (by have := (show ((w.1 2 8)).toInt = (15 : Int) from hk); omega) (by have := (show ((w.1 2 8)).toInt = (15 : Int) from hk); omega) rfl rfl ?_
        refine wk_aload_n xd_004b616a rfl ?_
        refine wk_iload xd_a0c398ab rfl ?_
        refine wk_iconst xd_f8d9a3e9 ?_
        refine wk_iconst xd_eff1c729 ?_
        obtain ⟨xa, wa, hCa, f1, f2, fa⟩ := ss_add (w := wn9_) (a := (w.1 2 8)) (b := (Int32.ofInt 0)) (c := (Int32.ofInt 0)) hMn9_.2.2.2
        have e9 : ((Int32.ofInt 0)).toInt = (0 : Int) := (show ((Int32.ofInt 0)).toInt = 0 from by decide)
        refine wk_call (kd := 0) (i := 67) xd_2e74ebd2 rfl (wk_cal (as := [.inr (.inr (some 111)), .inl (w.1 2 8), .inl (Int32.ofInt 0), .inl (Int32.ofInt 0)]) (t := []) xl_d7306f85 rfl xn_2a723c9c xc_62d23603 rfl rfl xv_f554e49c rfl) (cm_C_mono (by omega) hCa) ?_
        rcases fa with ⟨_, _, hxa, ea⟩ | ⟨z, _⟩
        rotate_left
        · omega
        have hMa : ss_M wa T n m (tx_tk T n m p).2.2.1 (o + 1) (st + 1) := ss_fr hMn9_ (fun k i hk => ⟨f1 k i (by omega) (by omega), by rw [f2]⟩) (by rw [f1 111 0 (by omega) (by omega)]; exact hMn9_.2.2.1) ea
        have hVa := ss_V_tr hVn9_a (show ss_V wn9_ wa from fun k i _ _ a => ⟨f1 k i (by omega) (by omega), by rw [f2]⟩)
        exact wk_ireturn xd_b009b96b xr_8bb113d5 (aw_bit (by have := hxa; omega) (by have := hxa; omega)) ⟨_, _, rfl, hVa, ss_P_y (sp_1s15 (by omega) ht) hxa (by omega) (by omega) hMa (by omega)⟩
      · have h51_4 := aw_le_f (a := ((-1) * (e : Int) + 8 : Int)) (b := (8 : Int)) hq (show (((Int8.ofInt 8).toInt32)).toInt = 8 from by decide) h51_4
        exfalso
        omega
  obtain ⟨oo, hC, x, w', rfl, a⟩ := h9
  exact ⟨x, w', hC, a⟩
theorem so_16 {T : Nat → Int} {n m : Nat} {h : Nat → Int} {nm : Nat → Nat} {e : Nat} {w : cm_W} {q : Int32} {p o st : Nat} (hq : q.toInt = ((-1) * (e : Int) + 8 : Int)) (hR : vl_R w 4 h nm) (hM : ss_M w T n m p o st) (hst : st ≤ 2 * o) (ho9 : o ≤ 20) (ht : ps_wd (tx_tk T n m p) 16) (hk : (w.1 2 8).toInt = 16) (ho20 : ¬ 20 ≤ o) (he : e ≤ 7) : ∃ x w', cm_C ((5 + 2 * e) + 1) 69 [.inr (.inr (some 111)), .inr (.inr (some 2)), .inr (.inr (some 4)), .inl q] w (some (.inl x), w') ∧ ss_V w w' ∧ ss_P T n m (sp_one T n m h nm (e + 1) o p) o st x w' := by
  have hs : 1 ≤ (tx_tk T n m p).1 ∧ (tx_tk T n m p).1 ≤ 3 := by have := ht.1; omega
  have ht3 : (tx_tk T n m p).1 = 1 := ht.1
  have h9 : ∃ oo, cm_C ((5 + 2 * e) + 1) 69 [.inr (.inr (some 111)), .inr (.inr (some 2)), .inr (.inr (some 4)), .inl q] w oo ∧ (fun oo : cm_O => ∃ x w', oo = (some (.inl x), w') ∧ ss_V w w' ∧ ss_P T n m (sp_one T n m h nm (e + 1) o p) o st x w') oo := by
    refine wk_entry (by rw [xm_9986a20b]; exact Nat.le_of_ble_eq_true rfl) ?_
    rw [show cm_ent 69 [.inr (.inr (some 111)), .inr (.inr (some 2)), .inr (.inr (some 4)), .inl q] = [some (.inr (.inr (some 111))), some (.inr (.inr (some 2))), some (.inr (.inr (some 4))), some (.inl q), none, none] from by unfold cm_ent; rw [xm_9986a20b]; rfl]
    refine wk_aload_n xd_069516b1 rfl ?_
    refine wk_getI xf_a4947e08 xd_5d0d08c5 ?_
    refine wk_istore xd_8ae2ac79 (by rw [xm_9986a20b]; rfl) rfl ?_
    refine wk_aload_n xd_eb5f64cb rfl ?_
    refine wk_bipush xd_9b99c558 ?_
    obtain ⟨xg, hCg, hxg⟩ := is_ok (w := w) (k := ((Int8.ofInt 40).toInt32)) (c := 40) (by decide) hM.1.2.1
    have hxg1 : xg.toInt = 0 := by omega
    refine wk_call (kd := 0) (i := 71) xd_2541b38a rfl (wk_cal (as := [.inr (.inr (some 2)), .inl ((Int8.ofInt 40).toInt32)]) (t := []) xl_bb2f47fd rfl xn_f2e637ad xc_3770e809 rfl rfl xv_6b285cca rfl) (cm_C_mono (by omega) hCg) ?_
    refine wk_istore xd_051e84b0 (by rw [xm_9986a20b]; rfl) rfl ?_
    refine wk_iload xd_2f3fb062 rfl ?_
    refine wk_if xd_95665ad6 (t := 39) rfl (fun h => absurd (aw_ne_t hxg1 hb_z h) (by omega)) (fun _ => ?_)
    refine wk_iload xd_ba8e1781 rfl ?_
    refine wk_bipush xd_fd81d28a ?_
    refine wk_icmp xd_7f1574a0 (t := 33) rfl (fun h => absurd (aw_lt_t (show ((w.1 2 8)).toInt = (16 : Int) from hk) (show (((Int8.ofInt 13).toInt32)).toInt = 13 from by decide) h) (by omega)) (fun _ => ?_)
    refine wk_iload xd_cfe335ef rfl ?_
    refine wk_bipush xd_9a1f5ab6 ?_
    refine wk_icmp xd_bcb3ce8d (t := 39) rfl (fun _ => ?_) (fun h => absurd (aw_le_f (show ((w.1 2 8)).toInt = (16 : Int) from hk) (show (((Int8.ofInt 21).toInt32)).toInt = 21 from by decide) h) (by omega))
    refine wk_aload_n xd_bda57d1f rfl ?_
    refine wk_getI xf_807ad0de xd_bff3330f ?_
    refine wk_bipush xd_611e5b4d ?_
    refine wk_icmp xd_ea1d518c (t := 54) rfl (fun h45_3 => ?_) (fun h45_3 => ?_)
    · have h45_3 := aw_ge_t (a := ((o : Int) : Int)) (b := (20 : Int)) (show ((w.1 111 0)).toInt = ((o : Int) : Int) from hM.2.2.1) (show (((Int8.ofInt 20).toInt32)).toInt = 20 from by decide) h45_3
      exfalso
      omega
    · have h45_3 := aw_ge_f (a := ((o : Int) : Int)) (b := (20 : Int)) (show ((w.1 111 0)).toInt = ((o : Int) : Int) from hM.2.2.1) (show (((Int8.ofInt 20).toInt32)).toInt = 20 from by decide) h45_3
      refine wk_iload_n xd_0a6d0901 rfl ?_
      refine wk_bipush xd_4629b18c ?_
      refine wk_icmp xd_d783db82 (t := 60) rfl (fun h51_4 => ?_) (fun h51_4 => ?_)
      · have h51_4 := aw_le_t (a := ((-1) * (e : Int) + 8 : Int)) (b := (8 : Int)) hq (show (((Int8.ofInt 8).toInt32)).toInt = 8 from by decide) h51_4
        refine wk_aload_n xd_ce4c2f95 rfl ?_
        refine wk_dup_r xd_5d36eb78 ?_
        refine wk_getI xf_807ad0de xd_3adf5e3d ?_
        refine wk_iconst xd_a313ea2e ?_
        refine aw_iadd (a := ((o : Int) : Int)) (b := (1 : Int)) (e := ((o : Int) + 1 : Int)) xd_0264a2cf (show ((w.1 111 0)).toInt = ((o : Int) : Int) from hM.2.2.1) (show ((Int32.ofInt 1)).toInt = 1 from by decide) (by omega) (by omega) (by omega) (fun v6_ p6_ => ?_)
        refine wk_putI xf_f7b1ce3c (fun ci => wk_fitI ci) xd_dd3828f1 ?_
        have hM7_ : ss_M (cm_u1 w 111 0 v6_) T n m p (o + 1) st := ss_fr hM (fun k i hk => ⟨hs_u1_ne (by omega), rfl⟩) (by rw [hs_u1_self, p6_]; omega) (by rw [hs_u1_ne (by omega)]; exact hM.2.2.2)
        have hV8_ := ss_V_tr (ss_V_rf w) (ss_V_u1 (w := w) (c := 111) (i := 0) (x := v6_) (by omega) (by omega))
        refine wk_aload_n xd_72096302 rfl ?_
        obtain ⟨wn9_, hCn9_, hVn9_, hNn9_⟩ := cs_next (ss_c hM7_) hs
        have hMn9_ := ss_of hM7_ hVn9_ hNn9_
        have hVn9_a := ss_V_tr hV8_ (ss_V_c hVn9_)
        refine wk_call (kd := 0) (i := 60) xd_51d2630b rfl (wk_cal (as := [.inr (.inr (some 2))]) (t := []) xl_76a4e030 rfl xn_568f4fa7 xc_1d38a579 rfl rfl xv_65cfb41b rfl) (cm_C_mono (by omega) hCn9_) ?_
        refine wk_iload xd_5dceeae2 rfl ?_
        refine wk_if xd_66825ce1 (t := 106) rfl (fun _ => ?_) (fun h => absurd (aw_eq_f hxg1 hb_z h) (by omega))
        refine wk_iload xd_21dea796 rfl ?_
        refine ax_tsw (j := 3) (t := 182) xd_a182db99 (by have := (show ((w.1 2 8)).toInt = (16 : Int) from hk); omega) (by have := (show ((w.1 2 8)).toInt = (16 : Int) from hk); omega) (by have := (show ((w.1 2 8)).toInt = (16 : Int) from hk); omega) rfl rfl ?_
        refine wk_aload_n xd_782d8077 rfl ?_
        refine wk_iload xd_15be06b3 rfl ?_
        refine wk_iconst xd_b7a1d521 ?_
        refine wk_aload_n xd_45110854 rfl ?_
        refine wk_aload_n xd_99c29850 rfl ?_
        refine wk_iconst xd_456b04e1 ?_
        obtain ⟨xl, wl, hCl, hVl, hl⟩ := ss_take0 (z := (Int32.ofInt 0)) (by decide) (ss_c hMn9_) (ss_V_R hVn9_a hR)
        have hVla := ss_V_tr hVn9_a (ss_V_c hVl)
        refine wk_call (kd := 0) (i := 77) xd_86c007c0 rfl (wk_cal (as := [.inr (.inr (some 2)), .inr (.inr (some 4)), .inl (Int32.ofInt 0)]) (t := [.inl (Int32.ofInt 0), .inl (w.1 2 8), .inr (.inr (some 111))]) xl_b17f1c45 rfl xn_725a18eb xc_be714b02 rfl rfl xv_0f9d2d2e rfl) (cm_C_mono (by omega) hCl) ?_
        rcases hl with ⟨i9, el, hx, hi, hN⟩ | ⟨k9, q9, el, hx, hB⟩
        · have hMl := ss_of hMn9_ hVl hN
          obtain ⟨xa, wa, hCa, f1, f2, fa⟩ := ss_add (w := wl) (a := (w.1 2 8)) (b := (Int32.ofInt 0)) (c := xl) hMl.2.2.2
          have e9 : (xl).toInt = (i9 : Int) := hx
          refine wk_call (kd := 0) (i := 67) xd_3fac07ad rfl (wk_cal (as := [.inr (.inr (some 111)), .inl (w.1 2 8), .inl (Int32.ofInt 0), .inl xl]) (t := []) xl_d7306f85 rfl xn_2a723c9c xc_62d23603 rfl rfl xv_f554e49c rfl) (cm_C_mono (by omega) hCa) ?_
          rcases fa with ⟨_, _, hxa, ea⟩ | ⟨z, _⟩
          rotate_left
          · omega
          have hMa : ss_M wa T n m (tx_tk T n m (tx_tk T n m p).2.2.1).2.2.1 (o + 1) (st + 1) := ss_fr hMl (fun k i hk => ⟨f1 k i (by omega) (by omega), by rw [f2]⟩) (by rw [f1 111 0 (by omega) (by omega)]; exact hMl.2.2.1) ea
          have hVa := ss_V_tr hVla (show ss_V wl wa from fun k i _ _ a => ⟨f1 k i (by omega) (by omega), by rw [f2]⟩)
          exact wk_ireturn xd_b5d8d910 xr_8bb113d5 (aw_bit (by have := hxa; omega) (by have := hxa; omega)) ⟨_, _, rfl, hVa, ss_P_y ((sp_1s16 (by omega) ht).trans (sp_n_y el)) hxa (by omega) (by omega) hMa (by omega)⟩
        · have hst9 : (wl.1 111 1).toInt = (st : Int) := by rw [(hVl 111 1 (by omega) (by omega)).1]; exact hMn9_.2.2.2
          obtain ⟨xa, wa, hCa, f1, f2, fa⟩ := ss_add (w := wl) (a := (w.1 2 8)) (b := (Int32.ofInt 0)) (c := xl) hst9
          have e9 : (xl).toInt = ((-1) : Int) := hx
          refine wk_call (kd := 0) (i := 67) xd_3fac07ad rfl (wk_cal (as := [.inr (.inr (some 111)), .inl (w.1 2 8), .inl (Int32.ofInt 0), .inl xl]) (t := []) xl_d7306f85 rfl xn_2a723c9c xc_62d23603 rfl rfl xv_f554e49c rfl) (cm_C_mono (by omega) hCa) ?_
          rcases fa with ⟨z, _⟩ | ⟨_, hxa, rfl⟩
          · exact absurd e9 z
          exact wk_ireturn xd_b5d8d910 xr_8bb113d5 (aw_bit (by have := hxa; omega) (by have := hxa; omega)) ⟨_, _, rfl, hVla, ss_P_e ((sp_1s16 (by omega) ht).trans (sp_n_e el)) hxa hB⟩
      · have h51_4 := aw_le_f (a := ((-1) * (e : Int) + 8 : Int)) (b := (8 : Int)) hq (show (((Int8.ofInt 8).toInt32)).toInt = 8 from by decide) h51_4
        exfalso
        omega
  obtain ⟨oo, hC, x, w', rfl, a⟩ := h9
  exact ⟨x, w', hC, a⟩
theorem so_17 {T : Nat → Int} {n m : Nat} {h : Nat → Int} {nm : Nat → Nat} {e : Nat} {w : cm_W} {q : Int32} {p o st : Nat} (hq : q.toInt = ((-1) * (e : Int) + 8 : Int)) (hR : vl_R w 4 h nm) (hM : ss_M w T n m p o st) (hst : st ≤ 2 * o) (ho9 : o ≤ 20) (ht : ps_wd (tx_tk T n m p) 17) (hk : (w.1 2 8).toInt = 17) (ho20 : ¬ 20 ≤ o) (he : e ≤ 7) : ∃ x w', cm_C ((5 + 2 * e) + 1) 69 [.inr (.inr (some 111)), .inr (.inr (some 2)), .inr (.inr (some 4)), .inl q] w (some (.inl x), w') ∧ ss_V w w' ∧ ss_P T n m (sp_one T n m h nm (e + 1) o p) o st x w' := by
  have hs : 1 ≤ (tx_tk T n m p).1 ∧ (tx_tk T n m p).1 ≤ 3 := by have := ht.1; omega
  have ht3 : (tx_tk T n m p).1 = 1 := ht.1
  have h9 : ∃ oo, cm_C ((5 + 2 * e) + 1) 69 [.inr (.inr (some 111)), .inr (.inr (some 2)), .inr (.inr (some 4)), .inl q] w oo ∧ (fun oo : cm_O => ∃ x w', oo = (some (.inl x), w') ∧ ss_V w w' ∧ ss_P T n m (sp_one T n m h nm (e + 1) o p) o st x w') oo := by
    refine wk_entry (by rw [xm_9986a20b]; exact Nat.le_of_ble_eq_true rfl) ?_
    rw [show cm_ent 69 [.inr (.inr (some 111)), .inr (.inr (some 2)), .inr (.inr (some 4)), .inl q] = [some (.inr (.inr (some 111))), some (.inr (.inr (some 2))), some (.inr (.inr (some 4))), some (.inl q), none, none] from by unfold cm_ent; rw [xm_9986a20b]; rfl]
    refine wk_aload_n xd_069516b1 rfl ?_
    refine wk_getI xf_a4947e08 xd_5d0d08c5 ?_
    refine wk_istore xd_8ae2ac79 (by rw [xm_9986a20b]; rfl) rfl ?_
    refine wk_aload_n xd_eb5f64cb rfl ?_
    refine wk_bipush xd_9b99c558 ?_
    obtain ⟨xg, hCg, hxg⟩ := is_ok (w := w) (k := ((Int8.ofInt 40).toInt32)) (c := 40) (by decide) hM.1.2.1
    have hxg1 : xg.toInt = 0 := by omega
    refine wk_call (kd := 0) (i := 71) xd_2541b38a rfl (wk_cal (as := [.inr (.inr (some 2)), .inl ((Int8.ofInt 40).toInt32)]) (t := []) xl_bb2f47fd rfl xn_f2e637ad xc_3770e809 rfl rfl xv_6b285cca rfl) (cm_C_mono (by omega) hCg) ?_
    refine wk_istore xd_051e84b0 (by rw [xm_9986a20b]; rfl) rfl ?_
    refine wk_iload xd_2f3fb062 rfl ?_
    refine wk_if xd_95665ad6 (t := 39) rfl (fun h => absurd (aw_ne_t hxg1 hb_z h) (by omega)) (fun _ => ?_)
    refine wk_iload xd_ba8e1781 rfl ?_
    refine wk_bipush xd_fd81d28a ?_
    refine wk_icmp xd_7f1574a0 (t := 33) rfl (fun h => absurd (aw_lt_t (show ((w.1 2 8)).toInt = (17 : Int) from hk) (show (((Int8.ofInt 13).toInt32)).toInt = 13 from by decide) h) (by omega)) (fun _ => ?_)
    refine wk_iload xd_cfe335ef rfl ?_
    refine wk_bipush xd_9a1f5ab6 ?_
    refine wk_icmp xd_bcb3ce8d (t := 39) rfl (fun _ => ?_) (fun h => absurd (aw_le_f (show ((w.1 2 8)).toInt = (17 : Int) from hk) (show (((Int8.ofInt 21).toInt32)).toInt = 21 from by decide) h) (by omega))
    refine wk_aload_n xd_bda57d1f rfl ?_
    refine wk_getI xf_807ad0de xd_bff3330f ?_
    refine wk_bipush xd_611e5b4d ?_
    refine wk_icmp xd_ea1d518c (t := 54) rfl (fun h45_3 => ?_) (fun h45_3 => ?_)
    · have h45_3 := aw_ge_t (a := ((o : Int) : Int)) (b := (20 : Int)) (show ((w.1 111 0)).toInt = ((o : Int) : Int) from hM.2.2.1) (show (((Int8.ofInt 20).toInt32)).toInt = 20 from by decide) h45_3
      exfalso
      omega
    · have h45_3 := aw_ge_f (a := ((o : Int) : Int)) (b := (20 : Int)) (show ((w.1 111 0)).toInt = ((o : Int) : Int) from hM.2.2.1) (show (((Int8.ofInt 20).toInt32)).toInt = 20 from by decide) h45_3
      refine wk_iload_n xd_0a6d0901 rfl ?_
      refine wk_bipush xd_4629b18c ?_
      refine wk_icmp xd_d783db82 (t := 60) rfl (fun h51_4 => ?_) (fun h51_4 => ?_)
      · have h51_4 := aw_le_t (a := ((-1) * (e : Int) + 8 : Int)) (b := (8 : Int)) hq (show (((Int8.ofInt 8).toInt32)).toInt = 8 from by decide) h51_4
        refine wk_aload_n xd_ce4c2f95 rfl ?_
        refine wk_dup_r xd_5d36eb78 ?_
        refine wk_getI xf_807ad0de xd_3adf5e3d ?_
        refine wk_iconst xd_a313ea2e ?_
        refine aw_iadd (a := ((o : Int) : Int)) (b := (1 : Int)) (e := ((o : Int) + 1 : Int)) xd_0264a2cf (show ((w.1 111 0)).toInt = ((o : Int) : Int) from hM.2.2.1) (show ((Int32.ofInt 1)).toInt = 1 from by decide) (by omega) (by omega) (by omega) (fun v6_ p6_ => ?_)
        refine wk_putI xf_f7b1ce3c (fun ci => wk_fitI ci) xd_dd3828f1 ?_
        have hM7_ : ss_M (cm_u1 w 111 0 v6_) T n m p (o + 1) st := ss_fr hM (fun k i hk => ⟨hs_u1_ne (by omega), rfl⟩) (by rw [hs_u1_self, p6_]; omega) (by rw [hs_u1_ne (by omega)]; exact hM.2.2.2)
        have hV8_ := ss_V_tr (ss_V_rf w) (ss_V_u1 (w := w) (c := 111) (i := 0) (x := v6_) (by omega) (by omega))
        refine wk_aload_n xd_72096302 rfl ?_
        obtain ⟨wn9_, hCn9_, hVn9_, hNn9_⟩ := cs_next (ss_c hM7_) hs
        have hMn9_ := ss_of hM7_ hVn9_ hNn9_
        have hVn9_a := ss_V_tr hV8_ (ss_V_c hVn9_)
        refine wk_call (kd := 0) (i := 60) xd_51d2630b rfl (wk_cal (as := [.inr (.inr (some 2))]) (t := []) xl_76a4e030 rfl xn_568f4fa7 xc_1d38a579 rfl rfl xv_65cfb41b rfl) (cm_C_mono (by omega) hCn9_) ?_
        refine wk_iload xd_5dceeae2 rfl ?_
        refine wk_if xd_66825ce1 (t := 106) rfl (fun _ => ?_) (fun h => absurd (aw_eq_f hxg1 hb_z h) (by omega))
        refine wk_iload xd_21dea796 rfl ?_
        refine ax_tsw (j := 4) (t := 196) xd_a182db99 (by have := (show ((w.1 2 8)).toInt = (17 : Int) from hk); omega) (by have := (show ((w.1 2 8)).toInt = (17 : Int) from hk); omega) (by have := (show ((w.1 2 8)).toInt = (17 : Int) from hk); omega) rfl rfl ?_
        refine wk_aload_n xd_f95444c3 rfl ?_
        refine wk_iload xd_106f66c8 rfl ?_
        refine wk_iconst xd_c9308af5 ?_
        refine wk_aload_n xd_4f3bf0c3 rfl ?_
        refine wk_aload_n xd_93e860c7 rfl ?_
        refine wk_iconst xd_f01f520f ?_
        obtain ⟨xl, wl, hCl, hVl, hl⟩ := ss_take2 (z := (Int32.ofInt 2)) (by decide) (ss_c hMn9_) (ss_V_R hVn9_a hR)
        have hVla := ss_V_tr hVn9_a (ss_V_c hVl)
        refine wk_call (kd := 0) (i := 77) xd_785791e6 rfl (wk_cal (as := [.inr (.inr (some 2)), .inr (.inr (some 4)), .inl (Int32.ofInt 2)]) (t := [.inl (Int32.ofInt 0), .inl (w.1 2 8), .inr (.inr (some 111))]) xl_b17f1c45 rfl xn_725a18eb xc_be714b02 rfl rfl xv_0f9d2d2e rfl) (cm_C_mono (by omega) hCl) ?_
        rcases hl with ⟨i9, el, hx, hi, hN⟩ | ⟨k9, q9, el, hx, hB⟩
        · have hMl := ss_of hMn9_ hVl hN
          obtain ⟨xa, wa, hCa, f1, f2, fa⟩ := ss_add (w := wl) (a := (w.1 2 8)) (b := (Int32.ofInt 0)) (c := xl) hMl.2.2.2
          have e9 : (xl).toInt = (i9 : Int) := hx
          refine wk_call (kd := 0) (i := 67) xd_7ee82d6b rfl (wk_cal (as := [.inr (.inr (some 111)), .inl (w.1 2 8), .inl (Int32.ofInt 0), .inl xl]) (t := []) xl_d7306f85 rfl xn_2a723c9c xc_62d23603 rfl rfl xv_f554e49c rfl) (cm_C_mono (by omega) hCa) ?_
          rcases fa with ⟨_, _, hxa, ea⟩ | ⟨z, _⟩
          rotate_left
          · omega
          have hMa : ss_M wa T n m (tx_tk T n m (tx_tk T n m p).2.2.1).2.2.1 (o + 1) (st + 1) := ss_fr hMl (fun k i hk => ⟨f1 k i (by omega) (by omega), by rw [f2]⟩) (by rw [f1 111 0 (by omega) (by omega)]; exact hMl.2.2.1) ea
          have hVa := ss_V_tr hVla (show ss_V wl wa from fun k i _ _ a => ⟨f1 k i (by omega) (by omega), by rw [f2]⟩)
          exact wk_ireturn xd_5a5daf20 xr_8bb113d5 (aw_bit (by have := hxa; omega) (by have := hxa; omega)) ⟨_, _, rfl, hVa, ss_P_y ((sp_1s17 (by omega) ht).trans (sp_n_y el)) hxa (by omega) (by omega) hMa (by omega)⟩
        · have hst9 : (wl.1 111 1).toInt = (st : Int) := by rw [(hVl 111 1 (by omega) (by omega)).1]; exact hMn9_.2.2.2
          obtain ⟨xa, wa, hCa, f1, f2, fa⟩ := ss_add (w := wl) (a := (w.1 2 8)) (b := (Int32.ofInt 0)) (c := xl) hst9
          have e9 : (xl).toInt = ((-1) : Int) := hx
          refine wk_call (kd := 0) (i := 67) xd_7ee82d6b rfl (wk_cal (as := [.inr (.inr (some 111)), .inl (w.1 2 8), .inl (Int32.ofInt 0), .inl xl]) (t := []) xl_d7306f85 rfl xn_2a723c9c xc_62d23603 rfl rfl xv_f554e49c rfl) (cm_C_mono (by omega) hCa) ?_
          rcases fa with ⟨z, _⟩ | ⟨_, hxa, rfl⟩
          · exact absurd e9 z
          exact wk_ireturn xd_5a5daf20 xr_8bb113d5 (aw_bit (by have := hxa; omega) (by have := hxa; omega)) ⟨_, _, rfl, hVla, ss_P_e ((sp_1s17 (by omega) ht).trans (sp_n_e el)) hxa hB⟩
      · have h51_4 := aw_le_f (a := ((-1) * (e : Int) + 8 : Int)) (b := (8 : Int)) hq (show (((Int8.ofInt 8).toInt32)).toInt = 8 from by decide) h51_4
        exfalso
        omega
  obtain ⟨oo, hC, x, w', rfl, a⟩ := h9
  exact ⟨x, w', hC, a⟩
theorem so_18 {T : Nat → Int} {n m : Nat} {h : Nat → Int} {nm : Nat → Nat} {e : Nat} {w : cm_W} {q : Int32} {p o st : Nat} (hq : q.toInt = ((-1) * (e : Int) + 8 : Int)) (hR : vl_R w 4 h nm) (hM : ss_M w T n m p o st) (hst : st ≤ 2 * o) (ho9 : o ≤ 20) (ht : ps_wd (tx_tk T n m p) 18) (hk : (w.1 2 8).toInt = 18) (ho20 : ¬ 20 ≤ o) (he : e ≤ 7) : ∃ x w', cm_C ((5 + 2 * e) + 1) 69 [.inr (.inr (some 111)), .inr (.inr (some 2)), .inr (.inr (some 4)), .inl q] w (some (.inl x), w') ∧ ss_V w w' ∧ ss_P T n m (sp_one T n m h nm (e + 1) o p) o st x w' := by
  have hs : 1 ≤ (tx_tk T n m p).1 ∧ (tx_tk T n m p).1 ≤ 3 := by have := ht.1; omega
  have ht3 : (tx_tk T n m p).1 = 1 := ht.1
  have h9 : ∃ oo, cm_C ((5 + 2 * e) + 1) 69 [.inr (.inr (some 111)), .inr (.inr (some 2)), .inr (.inr (some 4)), .inl q] w oo ∧ (fun oo : cm_O => ∃ x w', oo = (some (.inl x), w') ∧ ss_V w w' ∧ ss_P T n m (sp_one T n m h nm (e + 1) o p) o st x w') oo := by
    refine wk_entry (by rw [xm_9986a20b]; exact Nat.le_of_ble_eq_true rfl) ?_
    rw [show cm_ent 69 [.inr (.inr (some 111)), .inr (.inr (some 2)), .inr (.inr (some 4)), .inl q] = [some (.inr (.inr (some 111))), some (.inr (.inr (some 2))), some (.inr (.inr (some 4))), some (.inl q), none, none] from by unfold cm_ent; rw [xm_9986a20b]; rfl]
    refine wk_aload_n xd_069516b1 rfl ?_
    refine wk_getI xf_a4947e08 xd_5d0d08c5 ?_
    refine wk_istore xd_8ae2ac79 (by rw [xm_9986a20b]; rfl) rfl ?_
    refine wk_aload_n xd_eb5f64cb rfl ?_
    refine wk_bipush xd_9b99c558 ?_
    obtain ⟨xg, hCg, hxg⟩ := is_ok (w := w) (k := ((Int8.ofInt 40).toInt32)) (c := 40) (by decide) hM.1.2.1
    have hxg1 : xg.toInt = 0 := by omega
    refine wk_call (kd := 0) (i := 71) xd_2541b38a rfl (wk_cal (as := [.inr (.inr (some 2)), .inl ((Int8.ofInt 40).toInt32)]) (t := []) xl_bb2f47fd rfl xn_f2e637ad xc_3770e809 rfl rfl xv_6b285cca rfl) (cm_C_mono (by omega) hCg) ?_
    refine wk_istore xd_051e84b0 (by rw [xm_9986a20b]; rfl) rfl ?_
    refine wk_iload xd_2f3fb062 rfl ?_
    refine wk_if xd_95665ad6 (t := 39) rfl (fun h => absurd (aw_ne_t hxg1 hb_z h) (by omega)) (fun _ => ?_)
    refine wk_iload xd_ba8e1781 rfl ?_
    refine wk_bipush xd_fd81d28a ?_
    refine wk_icmp xd_7f1574a0 (t := 33) rfl (fun h => absurd (aw_lt_t (show ((w.1 2 8)).toInt = (18 : Int) from hk) (show (((Int8.ofInt 13).toInt32)).toInt = 13 from by decide) h) (by omega)) (fun _ => ?_)
    refine wk_iload xd_cfe335ef rfl ?_
    refine wk_bipush xd_9a1f5ab6 ?_
    refine wk_icmp xd_bcb3ce8d (t := 39) rfl (fun _ => ?_) (fun h => absurd (aw_le_f (show ((w.1 2 8)).toInt = (18 : Int) from hk) (show (((Int8.ofInt 21).toInt32)).toInt = 21 from by decide) h) (by omega))
    refine wk_aload_n xd_bda57d1f rfl ?_
    refine wk_getI xf_807ad0de xd_bff3330f ?_
    refine wk_bipush xd_611e5b4d ?_
    refine wk_icmp xd_ea1d518c (t := 54) rfl (fun h45_3 => ?_) (fun h45_3 => ?_)
    · have h45_3 := aw_ge_t (a := ((o : Int) : Int)) (b := (20 : Int)) (show ((w.1 111 0)).toInt = ((o : Int) : Int) from hM.2.2.1) (show (((Int8.ofInt 20).toInt32)).toInt = 20 from by decide) h45_3
      exfalso
      omega
    · have h45_3 := aw_ge_f (a := ((o : Int) : Int)) (b := (20 : Int)) (show ((w.1 111 0)).toInt = ((o : Int) : Int) from hM.2.2.1) (show (((Int8.ofInt 20).toInt32)).toInt = 20 from by decide) h45_3
      refine wk_iload_n xd_0a6d0901 rfl ?_
      refine wk_bipush xd_4629b18c ?_
      refine wk_icmp xd_d783db82 (t := 60) rfl (fun h51_4 => ?_) (fun h51_4 => ?_)
      · have h51_4 := aw_le_t (a := ((-1) * (e : Int) + 8 : Int)) (b := (8 : Int)) hq (show (((Int8.ofInt 8).toInt32)).toInt = 8 from by decide) h51_4
        refine wk_aload_n xd_ce4c2f95 rfl ?_
        refine wk_dup_r xd_5d36eb78 ?_
        refine wk_getI xf_807ad0de xd_3adf5e3d ?_
        refine wk_iconst xd_a313ea2e ?_
        refine aw_iadd (a := ((o : Int) : Int)) (b := (1 : Int)) (e := ((o : Int) + 1 : Int)) xd_0264a2cf (show ((w.1 111 0)).toInt = ((o : Int) : Int) from hM.2.2.1) (show ((Int32.ofInt 1)).toInt = 1 from by decide) (by omega) (by omega) (by omega) (fun v6_ p6_ => ?_)
        refine wk_putI xf_f7b1ce3c (fun ci => wk_fitI ci) xd_dd3828f1 ?_
        have hM7_ : ss_M (cm_u1 w 111 0 v6_) T n m p (o + 1) st := ss_fr hM (fun k i hk => ⟨hs_u1_ne (by omega), rfl⟩) (by rw [hs_u1_self, p6_]; omega) (by rw [hs_u1_ne (by omega)]; exact hM.2.2.2)
        have hV8_ := ss_V_tr (ss_V_rf w) (ss_V_u1 (w := w) (c := 111) (i := 0) (x := v6_) (by omega) (by omega))
        refine wk_aload_n xd_72096302 rfl ?_
        obtain ⟨wn9_, hCn9_, hVn9_, hNn9_⟩ := cs_next (ss_c hM7_) hs
        have hMn9_ := ss_of hM7_ hVn9_ hNn9_
        have hVn9_a := ss_V_tr hV8_ (ss_V_c hVn9_)
        refine wk_call (kd := 0) (i := 60) xd_51d2630b rfl (wk_cal (as := [.inr (.inr (some 2))]) (t := []) xl_76a4e030 rfl xn_568f4fa7 xc_1d38a579 rfl rfl xv_65cfb41b rfl) (cm_C_mono (by omega) hCn9_) ?_
        refine wk_iload xd_5dceeae2 rfl ?_
        refine wk_if xd_66825ce1 (t := 106) rfl (fun _ => ?_) (fun h => absurd (aw_eq_f hxg1 hb_z h) (by omega))
        refine wk_iload xd_21dea796 rfl ?_
        refine ax_tsd (t := 210) xd_a182db99 (.inr (by have := (show ((w.1 2 8)).toInt = (18 : Int) from hk); omega)) rfl ?_
        refine wk_aload_n xd_f37ebc54 rfl ?_
        refine wk_aload_n xd_556d7f30 rfl ?_
        refine wk_iload xd_52eafed0 rfl ?_
        obtain ⟨xM, wM, hCM, hVM, hM9⟩ := ss_cmp (fi := (w.1 2 8)) hMn9_ (by omega)
        have hVMa := ss_V_tr hVn9_a hVM
        refine wk_call (kd := 0) (i := 81) xd_bd84977a rfl (wk_cal (as := [.inr (.inr (some 111)), .inr (.inr (some 2)), .inl (w.1 2 8)]) (t := []) xl_5bf036ca rfl xn_b906cb4e xc_f408fd80 rfl rfl xv_af43f5b6 rfl) (cm_C_mono (by omega) hCM) ?_
        rcases hM9 with ⟨p9, el, hx, hMM⟩ | ⟨k9, q9, el, hx, hB⟩
        · skip
          exact wk_ireturn xd_9ebac750 xr_8bb113d5 (aw_bit (by have := hx; omega) (by have := hx; omega)) ⟨_, _, rfl, hVMa, ss_P_y ((sp_1s18 (by omega) ht).trans el) hx (by omega) (by omega) hMM (by omega)⟩
        · skip
          exact wk_ireturn xd_9ebac750 xr_8bb113d5 (aw_bit (by have := hx; omega) (by have := hx; omega)) ⟨_, _, rfl, hVMa, ss_P_e ((sp_1s18 (by omega) ht).trans el) hx hB⟩
      · have h51_4 := aw_le_f (a := ((-1) * (e : Int) + 8 : Int)) (b := (8 : Int)) hq (show (((Int8.ofInt 8).toInt32)).toInt = 8 from by decide) h51_4
        exfalso
        omega
  obtain ⟨oo, hC, x, w', rfl, a⟩ := h9
  exact ⟨x, w', hC, a⟩
theorem so_19 {T : Nat → Int} {n m : Nat} {h : Nat → Int} {nm : Nat → Nat} {e : Nat} {w : cm_W} {q : Int32} {p o st : Nat} (hq : q.toInt = ((-1) * (e : Int) + 8 : Int)) (hR : vl_R w 4 h nm) (hM : ss_M w T n m p o st) (hst : st ≤ 2 * o) (ho9 : o ≤ 20) (ht : ps_wd (tx_tk T n m p) 19) (hk : (w.1 2 8).toInt = 19) (ho20 : ¬ 20 ≤ o) (he : e ≤ 7) : ∃ x w', cm_C ((5 + 2 * e) + 1) 69 [.inr (.inr (some 111)), .inr (.inr (some 2)), .inr (.inr (some 4)), .inl q] w (some (.inl x), w') ∧ ss_V w w' ∧ ss_P T n m (sp_one T n m h nm (e + 1) o p) o st x w' := by
  have hs : 1 ≤ (tx_tk T n m p).1 ∧ (tx_tk T n m p).1 ≤ 3 := by have := ht.1; omega
  have ht3 : (tx_tk T n m p).1 = 1 := ht.1
  have h9 : ∃ oo, cm_C ((5 + 2 * e) + 1) 69 [.inr (.inr (some 111)), .inr (.inr (some 2)), .inr (.inr (some 4)), .inl q] w oo ∧ (fun oo : cm_O => ∃ x w', oo = (some (.inl x), w') ∧ ss_V w w' ∧ ss_P T n m (sp_one T n m h nm (e + 1) o p) o st x w') oo := by
    refine wk_entry (by rw [xm_9986a20b]; exact Nat.le_of_ble_eq_true rfl) ?_
    rw [show cm_ent 69 [.inr (.inr (some 111)), .inr (.inr (some 2)), .inr (.inr (some 4)), .inl q] = [some (.inr (.inr (some 111))), some (.inr (.inr (some 2))), some (.inr (.inr (some 4))), some (.inl q), none, none] from by unfold cm_ent; rw [xm_9986a20b]; rfl]
    refine wk_aload_n xd_069516b1 rfl ?_
    refine wk_getI xf_a4947e08 xd_5d0d08c5 ?_
    refine wk_istore xd_8ae2ac79 (by rw [xm_9986a20b]; rfl) rfl ?_
    refine wk_aload_n xd_eb5f64cb rfl ?_
    refine wk_bipush xd_9b99c558 ?_
    obtain ⟨xg, hCg, hxg⟩ := is_ok (w := w) (k := ((Int8.ofInt 40).toInt32)) (c := 40) (by decide) hM.1.2.1
    have hxg1 : xg.toInt = 0 := by omega
    refine wk_call (kd := 0) (i := 71) xd_2541b38a rfl (wk_cal (as := [.inr (.inr (some 2)), .inl ((Int8.ofInt 40).toInt32)]) (t := []) xl_bb2f47fd rfl xn_f2e637ad xc_3770e809 rfl rfl xv_6b285cca rfl) (cm_C_mono (by omega) hCg) ?_
    refine wk_istore xd_051e84b0 (by rw [xm_9986a20b]; rfl) rfl ?_
    refine wk_iload xd_2f3fb062 rfl ?_
    refine wk_if xd_95665ad6 (t := 39) rfl (fun h => absurd (aw_ne_t hxg1 hb_z h) (by omega)) (fun _ => ?_)
    refine wk_iload xd_ba8e1781 rfl ?_
    refine wk_bipush xd_fd81d28a ?_
    refine wk_icmp xd_7f1574a0 (t := 33) rfl (fun h => absurd (aw_lt_t (show ((w.1 2 8)).toInt = (19 : Int) from hk) (show (((Int8.ofInt 13).toInt32)).toInt = 13 from by decide) h) (by omega)) (fun _ => ?_)
    refine wk_iload xd_cfe335ef rfl ?_
    refine wk_bipush xd_9a1f5ab6 ?_
    refine wk_icmp xd_bcb3ce8d (t := 39) rfl (fun _ => ?_) (fun h => absurd (aw_le_f (show ((w.1 2 8)).toInt = (19 : Int) from hk) (show (((Int8.ofInt 21).toInt32)).toInt = 21 from by decide) h) (by omega))
    refine wk_aload_n xd_bda57d1f rfl ?_
    refine wk_getI xf_807ad0de xd_bff3330f ?_
    refine wk_bipush xd_611e5b4d ?_
    refine wk_icmp xd_ea1d518c (t := 54) rfl (fun h45_3 => ?_) (fun h45_3 => ?_)
    · have h45_3 := aw_ge_t (a := ((o : Int) : Int)) (b := (20 : Int)) (show ((w.1 111 0)).toInt = ((o : Int) : Int) from hM.2.2.1) (show (((Int8.ofInt 20).toInt32)).toInt = 20 from by decide) h45_3
      exfalso
      omega
    · have h45_3 := aw_ge_f (a := ((o : Int) : Int)) (b := (20 : Int)) (show ((w.1 111 0)).toInt = ((o : Int) : Int) from hM.2.2.1) (show (((Int8.ofInt 20).toInt32)).toInt = 20 from by decide) h45_3
      refine wk_iload_n xd_0a6d0901 rfl ?_
      refine wk_bipush xd_4629b18c ?_
      refine wk_icmp xd_d783db82 (t := 60) rfl (fun h51_4 => ?_) (fun h51_4 => ?_)
      · have h51_4 := aw_le_t (a := ((-1) * (e : Int) + 8 : Int)) (b := (8 : Int)) hq (show (((Int8.ofInt 8).toInt32)).toInt = 8 from by decide) h51_4
        refine wk_aload_n xd_ce4c2f95 rfl ?_
        refine wk_dup_r xd_5d36eb78 ?_
        refine wk_getI xf_807ad0de xd_3adf5e3d ?_
        refine wk_iconst xd_a313ea2e ?_
        refine aw_iadd (a := ((o : Int) : Int)) (b := (1 : Int)) (e := ((o : Int) + 1 : Int)) xd_0264a2cf (show ((w.1 111 0)).toInt = ((o : Int) : Int) from hM.2.2.1) (show ((Int32.ofInt 1)).toInt = 1 from by decide) (by omega) (by omega) (by omega) (fun v6_ p6_ => ?_)
        refine wk_putI xf_f7b1ce3c (fun ci => wk_fitI ci) xd_dd3828f1 ?_
        have hM7_ : ss_M (cm_u1 w 111 0 v6_) T n m p (o + 1) st := ss_fr hM (fun k i hk => ⟨hs_u1_ne (by omega), rfl⟩) (by rw [hs_u1_self, p6_]; omega) (by rw [hs_u1_ne (by omega)]; exact hM.2.2.2)
        have hV8_ := ss_V_tr (ss_V_rf w) (ss_V_u1 (w := w) (c := 111) (i := 0) (x := v6_) (by omega) (by omega))
        refine wk_aload_n xd_72096302 rfl ?_
        obtain ⟨wn9_, hCn9_, hVn9_, hNn9_⟩ := cs_next (ss_c hM7_) hs
        have hMn9_ := ss_of hM7_ hVn9_ hNn9_
        have hVn9_a := ss_V_tr hV8_ (ss_V_c hVn9_)
        refine wk_call (kd := 0) (i := 60) xd_51d2630b rfl (wk_cal (as := [.inr (.inr (some 2))]) (t := []) xl_76a4e030 rfl xn_568f4fa7 xc_1d38a579 rfl rfl xv_65cfb41b rfl) (cm_C_mono (by omega) hCn9_) ?_
        refine wk_iload xd_5dceeae2 rfl ?_
        refine wk_if xd_66825ce1 (t := 106) rfl (fun _ => ?_) (fun h => absurd (aw_eq_f hxg1 hb_z h) (by omega))
        refine wk_iload xd_21dea796 rfl ?_
        refine ax_tsd (t := 210) xd_a182db99 (.inr (by have := (show ((w.1 2 8)).toInt = (19 : Int) from hk); omega)) rfl ?_
        refine wk_aload_n xd_f37ebc54 rfl ?_
        refine wk_aload_n xd_556d7f30 rfl ?_
        refine wk_iload xd_52eafed0 rfl ?_
        obtain ⟨xM, wM, hCM, hVM, hM9⟩ := ss_cmp (fi := (w.1 2 8)) hMn9_ (by omega)
        have hVMa := ss_V_tr hVn9_a hVM
        refine wk_call (kd := 0) (i := 81) xd_bd84977a rfl (wk_cal (as := [.inr (.inr (some 111)), .inr (.inr (some 2)), .inl (w.1 2 8)]) (t := []) xl_5bf036ca rfl xn_b906cb4e xc_f408fd80 rfl rfl xv_af43f5b6 rfl) (cm_C_mono (by omega) hCM) ?_
        rcases hM9 with ⟨p9, el, hx, hMM⟩ | ⟨k9, q9, el, hx, hB⟩
        · skip
          exact wk_ireturn xd_9ebac750 xr_8bb113d5 (aw_bit (by have := hx; omega) (by have := hx; omega)) ⟨_, _, rfl, hVMa, ss_P_y ((sp_1s19 (by omega) ht).trans el) hx (by omega) (by omega) hMM (by omega)⟩
        · skip
          exact wk_ireturn xd_9ebac750 xr_8bb113d5 (aw_bit (by have := hx; omega) (by have := hx; omega)) ⟨_, _, rfl, hVMa, ss_P_e ((sp_1s19 (by omega) ht).trans el) hx hB⟩
      · have h51_4 := aw_le_f (a := ((-1) * (e : Int) + 8 : Int)) (b := (8 : Int)) hq (show (((Int8.ofInt 8).toInt32)).toInt = 8 from by decide) h51_4
        exfalso
        omega
  obtain ⟨oo, hC, x, w', rfl, a⟩ := h9
  exact ⟨x, w', hC, a⟩
theorem so_20 {T : Nat → Int} {n m : Nat} {h : Nat → Int} {nm : Nat → Nat} {e : Nat} {w : cm_W} {q : Int32} {p o st : Nat} (hq : q.toInt = ((-1) * (e : Int) + 8 : Int)) (hR : vl_R w 4 h nm) (hM : ss_M w T n m p o st) (hst : st ≤ 2 * o) (ho9 : o ≤ 20) (ht : ps_wd (tx_tk T n m p) 20) (hk : (w.1 2 8).toInt = 20) (ho20 : ¬ 20 ≤ o) (he : e ≤ 7) : ∃ x w', cm_C ((5 + 2 * e) + 1) 69 [.inr (.inr (some 111)), .inr (.inr (some 2)), .inr (.inr (some 4)), .inl q] w (some (.inl x), w') ∧ ss_V w w' ∧ ss_P T n m (sp_one T n m h nm (e + 1) o p) o st x w' := by
  have hs : 1 ≤ (tx_tk T n m p).1 ∧ (tx_tk T n m p).1 ≤ 3 := by have := ht.1; omega
  have ht3 : (tx_tk T n m p).1 = 1 := ht.1
  have h9 : ∃ oo, cm_C ((5 + 2 * e) + 1) 69 [.inr (.inr (some 111)), .inr (.inr (some 2)), .inr (.inr (some 4)), .inl q] w oo ∧ (fun oo : cm_O => ∃ x w', oo = (some (.inl x), w') ∧ ss_V w w' ∧ ss_P T n m (sp_one T n m h nm (e + 1) o p) o st x w') oo := by
    refine wk_entry (by rw [xm_9986a20b]; exact Nat.le_of_ble_eq_true rfl) ?_
    rw [show cm_ent 69 [.inr (.inr (some 111)), .inr (.inr (some 2)), .inr (.inr (some 4)), .inl q] = [some (.inr (.inr (some 111))), some (.inr (.inr (some 2))), some (.inr (.inr (some 4))), some (.inl q), none, none] from by unfold cm_ent; rw [xm_9986a20b]; rfl]
    refine wk_aload_n xd_069516b1 rfl ?_
    refine wk_getI xf_a4947e08 xd_5d0d08c5 ?_
    refine wk_istore xd_8ae2ac79 (by rw [xm_9986a20b]; rfl) rfl ?_
    refine wk_aload_n xd_eb5f64cb rfl ?_
    refine wk_bipush xd_9b99c558 ?_
    obtain ⟨xg, hCg, hxg⟩ := is_ok (w := w) (k := ((Int8.ofInt 40).toInt32)) (c := 40) (by decide) hM.1.2.1
    have hxg1 : xg.toInt = 0 := by omega
    refine wk_call (kd := 0) (i := 71) xd_2541b38a rfl (wk_cal (as := [.inr (.inr (some 2)), .inl ((Int8.ofInt 40).toInt32)]) (t := []) xl_bb2f47fd rfl xn_f2e637ad xc_3770e809 rfl rfl xv_6b285cca rfl) (cm_C_mono (by omega) hCg) ?_
    refine wk_istore xd_051e84b0 (by rw [xm_9986a20b]; rfl) rfl ?_
    refine wk_iload xd_2f3fb062 rfl ?_
    refine wk_if xd_95665ad6 (t := 39) rfl (fun h => absurd (aw_ne_t hxg1 hb_z h) (by omega)) (fun _ => ?_)
    refine wk_iload xd_ba8e1781 rfl ?_
    refine wk_bipush xd_fd81d28a ?_
    refine wk_icmp xd_7f1574a0 (t := 33) rfl (fun h => absurd (aw_lt_t (show ((w.1 2 8)).toInt = (20 : Int) from hk) (show (((Int8.ofInt 13).toInt32)).toInt = 13 from by decide) h) (by omega)) (fun _ => ?_)
    refine wk_iload xd_cfe335ef rfl ?_
    refine wk_bipush xd_9a1f5ab6 ?_
    refine wk_icmp xd_bcb3ce8d (t := 39) rfl (fun _ => ?_) (fun h => absurd (aw_le_f (show ((w.1 2 8)).toInt = (20 : Int) from hk) (show (((Int8.ofInt 21).toInt32)).toInt = 21 from by decide) h) (by omega))
    refine wk_aload_n xd_bda57d1f rfl ?_
    refine wk_getI xf_807ad0de xd_bff3330f ?_
    refine wk_bipush xd_611e5b4d ?_
    refine wk_icmp xd_ea1d518c (t := 54) rfl (fun h45_3 => ?_) (fun h45_3 => ?_)
    · have h45_3 := aw_ge_t (a := ((o : Int) : Int)) (b := (20 : Int)) (show ((w.1 111 0)).toInt = ((o : Int) : Int) from hM.2.2.1) (show (((Int8.ofInt 20).toInt32)).toInt = 20 from by decide) h45_3
      exfalso
      omega
    · have h45_3 := aw_ge_f (a := ((o : Int) : Int)) (b := (20 : Int)) (show ((w.1 111 0)).toInt = ((o : Int) : Int) from hM.2.2.1) (show (((Int8.ofInt 20).toInt32)).toInt = 20 from by decide) h45_3
      refine wk_iload_n xd_0a6d0901 rfl ?_
      refine wk_bipush xd_4629b18c ?_
      refine wk_icmp xd_d783db82 (t := 60) rfl (fun h51_4 => ?_) (fun h51_4 => ?_)
      · have h51_4 := aw_le_t (a := ((-1) * (e : Int) + 8 : Int)) (b := (8 : Int)) hq (show (((Int8.ofInt 8).toInt32)).toInt = 8 from by decide) h51_4
        refine wk_aload_n xd_ce4c2f95 rfl ?_
        refine wk_dup_r xd_5d36eb78 ?_
        refine wk_getI xf_807ad0de xd_3adf5e3d ?_
        refine wk_iconst xd_a313ea2e ?_
        refine aw_iadd (a := ((o : Int) : Int)) (b := (1 : Int)) (e := ((o : Int) + 1 : Int)) xd_0264a2cf (show ((w.1 111 0)).toInt = ((o : Int) : Int) from hM.2.2.1) (show ((Int32.ofInt 1)).toInt = 1 from by decide) (by omega) (by omega) (by omega) (fun v6_ p6_ => ?_)
        refine wk_putI xf_f7b1ce3c (fun ci => wk_fitI ci) xd_dd3828f1 ?_
        have hM7_ : ss_M (cm_u1 w 111 0 v6_) T n m p (o + 1) st := ss_fr hM (fun k i hk => ⟨hs_u1_ne (by omega), rfl⟩) (by rw [hs_u1_self, p6_]; omega) (by rw [hs_u1_ne (by omega)]; exact hM.2.2.2)
        have hV8_ := ss_V_tr (ss_V_rf w) (ss_V_u1 (w := w) (c := 111) (i := 0) (x := v6_) (by omega) (by omega))
        refine wk_aload_n xd_72096302 rfl ?_
        obtain ⟨wn9_, hCn9_, hVn9_, hNn9_⟩ := cs_next (ss_c hM7_) hs
        have hMn9_ := ss_of hM7_ hVn9_ hNn9_
        have hVn9_a := ss_V_tr hV8_ (ss_V_c hVn9_)
        refine wk_call (kd := 0) (i := 60) xd_51d2630b rfl (wk_cal (as := [.inr (.inr (some 2))]) (t := []) xl_76a4e030 rfl xn_568f4fa7 xc_1d38a579 rfl rfl xv_65cfb41b rfl) (cm_C_mono (by omega) hCn9_) ?_
        refine wk_iload xd_5dceeae2 rfl ?_
        refine wk_if xd_66825ce1 (t := 106) rfl (fun _ => ?_) (fun h => absurd (aw_eq_f hxg1 hb_z h) (by omega))
        refine wk_iload xd_21dea796 rfl ?_
        refine ax_tsd (t := 210) xd_a182db99 (.inr (by have := (show ((w.1 2 8)).toInt = (20 : Int) from hk); omega)) rfl ?_
        refine wk_aload_n xd_f37ebc54 rfl ?_
        refine wk_aload_n xd_556d7f30 rfl ?_
        refine wk_iload xd_52eafed0 rfl ?_
        obtain ⟨xM, wM, hCM, hVM, hM9⟩ := ss_cmp (fi := (w.1 2 8)) hMn9_ (by omega)
        have hVMa := ss_V_tr hVn9_a hVM
        refine wk_call (kd := 0) (i := 81) xd_bd84977a rfl (wk_cal (as := [.inr (.inr (some 111)), .inr (.inr (some 2)), .inl (w.1 2 8)]) (t := []) xl_5bf036ca rfl xn_b906cb4e xc_f408fd80 rfl rfl xv_af43f5b6 rfl) (cm_C_mono (by omega) hCM) ?_
        rcases hM9 with ⟨p9, el, hx, hMM⟩ | ⟨k9, q9, el, hx, hB⟩
        · skip
          exact wk_ireturn xd_9ebac750 xr_8bb113d5 (aw_bit (by have := hx; omega) (by have := hx; omega)) ⟨_, _, rfl, hVMa, ss_P_y ((sp_1s20 (by omega) ht).trans el) hx (by omega) (by omega) hMM (by omega)⟩
        · skip
          exact wk_ireturn xd_9ebac750 xr_8bb113d5 (aw_bit (by have := hx; omega) (by have := hx; omega)) ⟨_, _, rfl, hVMa, ss_P_e ((sp_1s20 (by omega) ht).trans el) hx hB⟩
      · have h51_4 := aw_le_f (a := ((-1) * (e : Int) + 8 : Int)) (b := (8 : Int)) hq (show (((Int8.ofInt 8).toInt32)).toInt = 8 from by decide) h51_4
        exfalso
        omega
  obtain ⟨oo, hC, x, w', rfl, a⟩ := h9
  exact ⟨x, w', hC, a⟩
theorem so_21 {T : Nat → Int} {n m : Nat} {h : Nat → Int} {nm : Nat → Nat} {e : Nat} {w : cm_W} {q : Int32} {p o st : Nat} (hq : q.toInt = ((-1) * (e : Int) + 8 : Int)) (hR : vl_R w 4 h nm) (hM : ss_M w T n m p o st) (hst : st ≤ 2 * o) (ho9 : o ≤ 20) (ht : ps_wd (tx_tk T n m p) 21) (hk : (w.1 2 8).toInt = 21) (ho20 : ¬ 20 ≤ o) (he : e ≤ 7) : ∃ x w', cm_C ((5 + 2 * e) + 1) 69 [.inr (.inr (some 111)), .inr (.inr (some 2)), .inr (.inr (some 4)), .inl q] w (some (.inl x), w') ∧ ss_V w w' ∧ ss_P T n m (sp_one T n m h nm (e + 1) o p) o st x w' := by
  have hs : 1 ≤ (tx_tk T n m p).1 ∧ (tx_tk T n m p).1 ≤ 3 := by have := ht.1; omega
  have ht3 : (tx_tk T n m p).1 = 1 := ht.1
  have h9 : ∃ oo, cm_C ((5 + 2 * e) + 1) 69 [.inr (.inr (some 111)), .inr (.inr (some 2)), .inr (.inr (some 4)), .inl q] w oo ∧ (fun oo : cm_O => ∃ x w', oo = (some (.inl x), w') ∧ ss_V w w' ∧ ss_P T n m (sp_one T n m h nm (e + 1) o p) o st x w') oo := by
    refine wk_entry (by rw [xm_9986a20b]; exact Nat.le_of_ble_eq_true rfl) ?_
    rw [show cm_ent 69 [.inr (.inr (some 111)), .inr (.inr (some 2)), .inr (.inr (some 4)), .inl q] = [some (.inr (.inr (some 111))), some (.inr (.inr (some 2))), some (.inr (.inr (some 4))), some (.inl q), none, none] from by unfold cm_ent; rw [xm_9986a20b]; rfl]
    refine wk_aload_n xd_069516b1 rfl ?_
    refine wk_getI xf_a4947e08 xd_5d0d08c5 ?_
    refine wk_istore xd_8ae2ac79 (by rw [xm_9986a20b]; rfl) rfl ?_
    refine wk_aload_n xd_eb5f64cb rfl ?_
    refine wk_bipush xd_9b99c558 ?_
    obtain ⟨xg, hCg, hxg⟩ := is_ok (w := w) (k := ((Int8.ofInt 40).toInt32)) (c := 40) (by decide) hM.1.2.1
    have hxg1 : xg.toInt = 0 := by omega
    refine wk_call (kd := 0) (i := 71) xd_2541b38a rfl (wk_cal (as := [.inr (.inr (some 2)), .inl ((Int8.ofInt 40).toInt32)]) (t := []) xl_bb2f47fd rfl xn_f2e637ad xc_3770e809 rfl rfl xv_6b285cca rfl) (cm_C_mono (by omega) hCg) ?_
    refine wk_istore xd_051e84b0 (by rw [xm_9986a20b]; rfl) rfl ?_
    refine wk_iload xd_2f3fb062 rfl ?_
    refine wk_if xd_95665ad6 (t := 39) rfl (fun h => absurd (aw_ne_t hxg1 hb_z h) (by omega)) (fun _ => ?_)
    refine wk_iload xd_ba8e1781 rfl ?_
    refine wk_bipush xd_fd81d28a ?_
    refine wk_icmp xd_7f1574a0 (t := 33) rfl (fun h => absurd (aw_lt_t (show ((w.1 2 8)).toInt = (21 : Int) from hk) (show (((Int8.ofInt 13).toInt32)).toInt = 13 from by decide) h) (by omega)) (fun _ => ?_)
    refine wk_iload xd_cfe335ef rfl ?_
    refine wk_bipush xd_9a1f5ab6 ?_
    refine wk_icmp xd_bcb3ce8d (t := 39) rfl (fun _ => ?_) (fun h => absurd (aw_le_f (show ((w.1 2 8)).toInt = (21 : Int) from hk) (show (((Int8.ofInt 21).toInt32)).toInt = 21 from by decide) h) (by omega))
    refine wk_aload_n xd_bda57d1f rfl ?_
    refine wk_getI xf_807ad0de xd_bff3330f ?_
    refine wk_bipush xd_611e5b4d ?_
    refine wk_icmp xd_ea1d518c (t := 54) rfl (fun h45_3 => ?_) (fun h45_3 => ?_)
    · have h45_3 := aw_ge_t (a := ((o : Int) : Int)) (b := (20 : Int)) (show ((w.1 111 0)).toInt = ((o : Int) : Int) from hM.2.2.1) (show (((Int8.ofInt 20).toInt32)).toInt = 20 from by decide) h45_3
      exfalso
      omega
    · have h45_3 := aw_ge_f (a := ((o : Int) : Int)) (b := (20 : Int)) (show ((w.1 111 0)).toInt = ((o : Int) : Int) from hM.2.2.1) (show (((Int8.ofInt 20).toInt32)).toInt = 20 from by decide) h45_3
      refine wk_iload_n xd_0a6d0901 rfl ?_
      refine wk_bipush xd_4629b18c ?_
      refine wk_icmp xd_d783db82 (t := 60) rfl (fun h51_4 => ?_) (fun h51_4 => ?_)
      · have h51_4 := aw_le_t (a := ((-1) * (e : Int) + 8 : Int)) (b := (8 : Int)) hq (show (((Int8.ofInt 8).toInt32)).toInt = 8 from by decide) h51_4
        refine wk_aload_n xd_ce4c2f95 rfl ?_
        refine wk_dup_r xd_5d36eb78 ?_
        refine wk_getI xf_807ad0de xd_3adf5e3d ?_
        refine wk_iconst xd_a313ea2e ?_
        refine aw_iadd (a := ((o : Int) : Int)) (b := (1 : Int)) (e := ((o : Int) + 1 : Int)) xd_0264a2cf (show ((w.1 111 0)).toInt = ((o : Int) : Int) from hM.2.2.1) (show ((Int32.ofInt 1)).toInt = 1 from by decide) (by omega) (by omega) (by omega) (fun v6_ p6_ => ?_)
        refine wk_putI xf_f7b1ce3c (fun ci => wk_fitI ci) xd_dd3828f1 ?_
        have hM7_ : ss_M (cm_u1 w 111 0 v6_) T n m p (o + 1) st := ss_fr hM (fun k i hk => ⟨hs_u1_ne (by omega), rfl⟩) (by rw [hs_u1_self, p6_]; omega) (by rw [hs_u1_ne (by omega)]; exact hM.2.2.2)
        have hV8_ := ss_V_tr (ss_V_rf w) (ss_V_u1 (w := w) (c := 111) (i := 0) (x := v6_) (by omega) (by omega))
        refine wk_aload_n xd_72096302 rfl ?_
        obtain ⟨wn9_, hCn9_, hVn9_, hNn9_⟩ := cs_next (ss_c hM7_) hs
        have hMn9_ := ss_of hM7_ hVn9_ hNn9_
        have hVn9_a := ss_V_tr hV8_ (ss_V_c hVn9_)
        refine wk_call (kd := 0) (i := 60) xd_51d2630b rfl (wk_cal (as := [.inr (.inr (some 2))]) (t := []) xl_76a4e030 rfl xn_568f4fa7 xc_1d38a579 rfl rfl xv_65cfb41b rfl) (cm_C_mono (by omega) hCn9_) ?_
        refine wk_iload xd_5dceeae2 rfl ?_
        refine wk_if xd_66825ce1 (t := 106) rfl (fun _ => ?_) (fun h => absurd (aw_eq_f hxg1 hb_z h) (by omega))
        refine wk_iload xd_21dea796 rfl ?_
        refine ax_tsd (t := 210) xd_a182db99 (.inr (by have := (show ((w.1 2 8)).toInt = (21 : Int) from hk); omega)) rfl ?_
        refine wk_aload_n xd_f37ebc54 rfl ?_
        refine wk_aload_n xd_556d7f30 rfl ?_
        refine wk_iload xd_52eafed0 rfl ?_
        obtain ⟨xM, wM, hCM, hVM, hM9⟩ := ss_cmp (fi := (w.1 2 8)) hMn9_ (by omega)
        have hVMa := ss_V_tr hVn9_a hVM
        refine wk_call (kd := 0) (i := 81) xd_bd84977a rfl (wk_cal (as := [.inr (.inr (some 111)), .inr (.inr (some 2)), .inl (w.1 2 8)]) (t := []) xl_5bf036ca rfl xn_b906cb4e xc_f408fd80 rfl rfl xv_af43f5b6 rfl) (cm_C_mono (by omega) hCM) ?_
        rcases hM9 with ⟨p9, el, hx, hMM⟩ | ⟨k9, q9, el, hx, hB⟩
        · skip
          exact wk_ireturn xd_9ebac750 xr_8bb113d5 (aw_bit (by have := hx; omega) (by have := hx; omega)) ⟨_, _, rfl, hVMa, ss_P_y ((sp_1s21 (by omega) ht).trans el) hx (by omega) (by omega) hMM (by omega)⟩
        · skip
          exact wk_ireturn xd_9ebac750 xr_8bb113d5 (aw_bit (by have := hx; omega) (by have := hx; omega)) ⟨_, _, rfl, hVMa, ss_P_e ((sp_1s21 (by omega) ht).trans el) hx hB⟩
      · have h51_4 := aw_le_f (a := ((-1) * (e : Int) + 8 : Int)) (b := (8 : Int)) hq (show (((Int8.ofInt 8).toInt32)).toInt = 8 from by decide) h51_4
        exfalso
        omega
  obtain ⟨oo, hC, x, w', rfl, a⟩ := h9
  exact ⟨x, w', hC, a⟩
theorem so_0 {T : Nat → Int} {n m : Nat} {h : Nat → Int} {nm : Nat → Nat} : ss_X T n m h nm 4 69 9 (fun o p => sp_one T n m h nm 0 o p) := by
  intro w q p o st hq hR hM hst ho
  rcases ss_beg hM.1.2.1 with ⟨a, b, c⟩ | ⟨k, a, b, c, d⟩ | ⟨a, b⟩
  · exact so_zd hq hR hM hst ho (sp_nono40 ⟨a, b⟩) (.inl ⟨a, b⟩)
  · exact so_zd hq hR hM hst ho (sp_nono d a b) (.inr ⟨by omega, by omega⟩)
  · exact so_zno hq hR hM hst ho a b
theorem so_s {T : Nat → Int} {n m : Nat} {h : Nat → Int} {nm : Nat → Nat} {e : Nat} (he : e ≤ 7) (hc : ss_X T n m h nm (5 + 2 * e) 68 (9 - (e : Int)) (fun o p => sp_lp T n m (fun o p => sp_one T n m h nm e o p) 21 o p)) (ho : ss_X T n m h nm (5 + 2 * e) 69 (9 - (e : Int)) (fun o p => sp_one T n m h nm e o p)) : ss_X T n m h nm (6 + 2 * e) 69 (8 - (e : Int)) (fun o p => sp_one T n m h nm (e + 1) o p) := by
  intro w q p o st hq hR hM hst ho9
  have hq : q.toInt = ((-1) * (e : Int) + 8 : Int) := hq.trans (by omega)
  have fin : (∃ x w', cm_C ((5 + 2 * e) + 1) 69 [.inr (.inr (some 111)), .inr (.inr (some 2)), .inr (.inr (some 4)), .inl q] w (some (.inl x), w') ∧ ss_V w w' ∧ ss_P T n m (sp_one T n m h nm (e + 1) o p) o st x w') → ∃ x w', cm_C (6 + 2 * e) 69 [.inr (.inr (some 111)), .inr (.inr (some 2)), .inr (.inr (some 4)), .inl q] w (some (.inl x), w') ∧ ss_V w w' ∧ ss_P T n m (sp_one T n m h nm (e + 1) o p) o st x w' := fun ⟨x, w', a, b, c⟩ => ⟨x, w', cm_C_mono (by omega) a, b, c⟩
  refine fin ?_
  rcases ss_beg hM.1.2.1 with ⟨a, b, c⟩ | ⟨k, a, b, c, d⟩ | ⟨a, b⟩
  · by_cases h20 : 20 ≤ o
    · exact so_full hq hR hM hst ho9 (sp_nono40 ⟨a, b⟩) (.inl ⟨a, b⟩) h20 he
    · exact so_40 hq hR hM hst ho9 ⟨a, b⟩ c h20 he hc
  · by_cases h20 : 20 ≤ o
    · exact so_full hq hR hM hst ho9 (sp_nono d a b) (.inr ⟨by omega, by omega⟩) h20 he
    · rcases (show k = 13 ∨ k = 14 ∨ k = 15 ∨ k = 16 ∨ k = 17 ∨ k = 18 ∨ k = 19 ∨ k = 20 ∨ k = 21 by omega) with rfl | rfl | rfl | rfl | rfl | rfl | rfl | rfl | rfl
      · exact so_13 hq hR hM hst ho9 d c h20 he ho
      · exact so_14 hq hR hM hst ho9 d c h20 he
      · exact so_15 hq hR hM hst ho9 d c h20 he
      · exact so_16 hq hR hM hst ho9 d c h20 he
      · exact so_17 hq hR hM hst ho9 d c h20 he
      · exact so_18 hq hR hM hst ho9 d c h20 he
      · exact so_19 hq hR hM hst ho9 d c h20 he
      · exact so_20 hq hR hM hst ho9 d c h20 he
      · exact so_21 hq hR hM hst ho9 d c h20 he
  · exact so_no hq hR hM hst ho9 a b he
theorem so_lp {T : Nat → Int} {n m : Nat} {h : Nat → Int} {nm : Nat → Nat} {P : Nat → Nat → sp_R} (N : Nat) (dv : Int) (ho : ss_X T n m h nm (4 + N) 69 dv P) {w1 : cm_W} {q : Int32} {o0 st0 : Nat} (hq : q.toInt = dv) (hR1 : vl_R w1 4 h nm) (hst0 : st0 ≤ 2 * o0) (Q : cm_O → Prop) : ∀ (g i o p st a b : Nat) (c1 c2 z : Int32) (w : cm_W), (∀ x w', ss_V w1 w' → ss_P T n m (sp_lp T n m P g o p) o0 st0 x w' → Q (some (.inl x), w')) → g + i = 21 → z.toInt = (i : Int) → ss_V w1 w → vl_R w 4 h nm → ss_M w T n m p o st → o0 + i ≤ o → o ≤ 20 → c1.toInt = (a : Int) → c2.toInt = (b : Int) → a ≤ 1 → b ≤ 1 → st + a + b + 2 * o0 ≤ st0 + 2 * o → cm_X (cm_C (4 + N)) 68 9 [some (.inr (.inr (some 111))), some (.inr (.inr (some 2))), some (.inr (.inr (some 4))), some (.inl q), some (.inl c1), some (.inl c2), some (.inl z)] [] w Q := by
  intro g
  induction g with
  | zero =>
    intro i o p st a b c1 c2 z w hk hgi hz hV hR hM hoi hol h1 h2 ha hb hsum
    omega
  | succ g ih =>
    intro i o p st a b c1 c2 z w hk hgi hz hV hR hM hoi hol h1 h2 ha hb hsum
    refine wk_iload xd_965c75b9 rfl ?_
    refine wk_bipush xd_0a27689d ?_
    refine wk_icmp xd_8a4bc166 (t := 87) rfl (fun h13_0 => ?_) (fun h13_0 => ?_)
    · have h13_0 := aw_gt_t (a := ((i : Int) : Int)) (b := (20 : Int)) hz (show (((Int8.ofInt 20).toInt32)).toInt = 20 from by decide) h13_0
      exfalso
      omega
    · have h13_0 := aw_gt_f (a := ((i : Int) : Int)) (b := (20 : Int)) hz (show (((Int8.ofInt 20).toInt32)).toInt = 20 from by decide) h13_0
      refine wk_aload_n xd_7c1271d9 rfl ?_
      refine wk_aload_n xd_da01b2bd rfl ?_
      refine wk_aload_n xd_eba113e5 rfl ?_
      refine wk_iload_n xd_17b103ec rfl ?_
      obtain ⟨xR, wR, hCR, hVR, hPR⟩ := ho w q p o st hq hR hM (by omega) hol
      have hVRa := ss_V_tr hV hVR
      refine wk_call (kd := 0) (i := 50) xd_fadce80e rfl (wk_cal (as := [.inr (.inr (some 111)), .inr (.inr (some 2)), .inr (.inr (some 4)), .inl q]) (t := []) xl_47753746 rfl xn_1695f0e9 xc_940bc8b8 rfl rfl xv_ccc6a65d rfl) (cm_C_mono (by omega) hCR) ?_
      rcases ss_P_c hPR with ⟨k9, q9, er, hxR, hBR⟩ | ⟨o9, p9, st9, er, hxR, hoR, hoR2, hMR, hsR⟩
      · skip
        refine wk_if xd_bbca0010 (t := 28) rfl (fun h => absurd (aw_ne_t hxR hb_z h) (by omega)) (fun _ => ?_)
        refine wk_iconst xd_404a69da ?_
        exact wk_ireturn xd_b4c198da xr_0c17d896 wk_z0 (hk _ _ hVRa (ss_P_e (sp_l_e er) (by decide) hBR))
      · skip
        refine wk_if xd_bbca0010 (t := 28) rfl (fun _ => ?_) (fun h => absurd (aw_ne_f hxR hb_z h) (by omega))
        refine wk_aload_n xd_c97fe9ad rfl ?_
        refine wk_bipush xd_aed4a35d ?_
        refine wk_iload xd_29c76ec9 rfl ?_
        obtain ⟨wJA, hCJA, f1JA, f2JA, sJA, hsJA, hlJA⟩ := ss_join (w := wR) (j := ((Int8.ofInt 12).toInt32)) (q := c2) (u := b) hMR.2.2.2 h2
        refine wk_call (kd := 0) (i := 53) xd_f73a5f17 rfl (wk_cal (as := [.inr (.inr (some 111)), .inl ((Int8.ofInt 12).toInt32), .inl c2]) (t := []) xl_c1c38a38 rfl xn_7cf6264f xc_311df234 rfl rfl xv_186c37a3 rfl) (cm_C_mono (by omega) hCJA) ?_
        have hMJA : ss_M wJA T n m p9 o9 sJA := ss_fr hMR (fun k i hk => ⟨f1JA k i (by omega) (by omega), by rw [f2JA]⟩) (by rw [f1JA 111 0 (by omega) (by omega)]; exact hMR.2.2.1) hsJA
        have hVJA := ss_V_tr hVRa (show ss_V wR wJA from fun k i _ _ a => ⟨f1JA k i (by omega) (by omega), by rw [f2JA]⟩)
        have hKJA := ss_kw hMJA.1.2.1 12 (by omega)
        refine wk_istore xd_533462ce (by rw [xm_d3e1bb2d]; rfl) rfl ?_
        refine wk_aload_n xd_753aa53a rfl ?_
        refine wk_getI xf_2332b54b xd_d712d8dc ?_
        refine wk_bipush xd_68b58b16 ?_
        refine wk_icmp xd_9539b937 (t := 53) rfl (fun h44_3 => ?_) (fun h44_3 => ?_)
        · have h44_3 := aw_ne_t (a := ((wJA.1 2 8).toInt : Int)) (b := (12 : Int)) rfl (show (((Int8.ofInt 12).toInt32)).toInt = 12 from by decide) h44_3
          have hw12 : ¬ ps_wd (tx_tk T n m p9) 12 := hKJA.elim (fun z => absurd z.1 (by omega)) (fun z => z.2)
          refine wk_aload_n xd_8e3ba4c1 rfl ?_
          refine wk_bipush xd_43fae69b ?_
          refine wk_iload xd_0fb19ba1 rfl ?_
          obtain ⟨wJO, hCJO, f1JO, f2JO, sJO, hsJO, hlJO⟩ := ss_join (w := wJA) (j := ((Int8.ofInt 11).toInt32)) (q := c1) (u := a) hMJA.2.2.2 h1
          refine wk_call (kd := 0) (i := 53) xd_adbd16e8 rfl (wk_cal (as := [.inr (.inr (some 111)), .inl ((Int8.ofInt 11).toInt32), .inl c1]) (t := []) xl_c1c38a38 rfl xn_7cf6264f xc_311df234 rfl rfl xv_186c37a3 rfl) (cm_C_mono (by omega) hCJO) ?_
          have hMJO : ss_M wJO T n m p9 o9 sJO := ss_fr hMJA (fun k i hk => ⟨f1JO k i (by omega) (by omega), by rw [f2JO]⟩) (by rw [f1JO 111 0 (by omega) (by omega)]; exact hMJA.2.2.1) hsJO
          have hVJO := ss_V_tr hVJA (show ss_V wJA wJO from fun k i _ _ a => ⟨f1JO k i (by omega) (by omega), by rw [f2JO]⟩)
          have hKJO := ss_kw hMJO.1.2.1 11 (by omega)
          refine wk_istore xd_90a23e79 (by rw [xm_d3e1bb2d]; rfl) rfl ?_
          refine wk_aload_n xd_eb452459 rfl ?_
          refine wk_getI xf_2332b54b xd_68a6a1d7 ?_
          refine wk_bipush xd_6d01768e ?_
          refine wk_icmp xd_5016ac09 (t := 74) rfl (fun h69_4 => ?_) (fun h69_4 => ?_)
          · have h69_4 := aw_eq_t (a := ((wJO.1 2 8).toInt : Int)) (b := (11 : Int)) rfl (show (((Int8.ofInt 11).toInt32)).toInt = 11 from by decide) h69_4
            have hw11 : ps_wd (tx_tk T n m p9) 11 := hKJO.elim (fun z => z.2) (fun z => absurd z.1 (by omega))
            have hmore : ps_wd (tx_tk T n m p9) 12 ∨ ps_wd (tx_tk T n m p9) 11 := .inr hw11
            have ht1 : (tx_tk T n m p9).1 = 1 := hw11.1
            refine wk_iconst xd_c855c2ad ?_
            refine wk_istore xd_577047ad (by rw [xm_d3e1bb2d]; rfl) rfl ?_
            refine wk_aload_n xd_6a3ce0ed rfl ?_
            obtain ⟨wn6_, hCn6_, hVn6_, hNn6_⟩ := cs_next (ss_c hMJO) ⟨by omega, by omega⟩
            have hMn6_ := ss_of hMJO hVn6_ hNn6_
            have hVn6_a := ss_V_tr hVJO (ss_V_c hVn6_)
            refine wk_call (kd := 0) (i := 60) xd_7146cf34 rfl (wk_cal (as := [.inr (.inr (some 2))]) (t := []) xl_877ee59a rfl xn_568f4fa7 xc_1d38a579 rfl rfl xv_65cfb41b rfl) (cm_C_mono (by omega) hCn6_) ?_
            refine aw_iinc (a := ((i : Int) : Int)) (b := (1 : Int)) (e := ((i : Int) + 1 : Int)) xd_33f5c8ff (by rw [xm_d3e1bb2d]; rfl) rfl rfl hz (show ((Int32.ofInt 1)).toInt = 1 from by decide) (by omega) (by omega) (by omega) (fun v7_ p7_ => ?_)
            refine wk_goto xd_2c4679b5 (t := 9) rfl ?_
            refine ih (i + 1) o9 (tx_tk T n m p9).2.2.1 sJO 1 0 _ _ _ wn6_ (fun x w9 a9 b9 => hk x w9 a9 ?_) (by omega) (by omega) hVn6_a (ss_V_R (w := w1) hVn6_a hR1) hMn6_ (by omega) (by omega) (show ((Int32.ofInt 1)).toInt = 1 from by decide) (show ((Int32.ofInt 0)).toInt = 0 from by decide) (by omega) (by omega) (by omega)
            rw [sp_l_m er hmore]
            exact b9
          · have h69_4 := aw_eq_f (a := ((wJO.1 2 8).toInt : Int)) (b := (11 : Int)) rfl (show (((Int8.ofInt 11).toInt32)).toInt = 11 from by decide) h69_4
            have hw11 : ¬ ps_wd (tx_tk T n m p9) 11 := hKJO.elim (fun z => absurd z.1 (by omega)) (fun z => z.2)
            refine wk_iconst xd_baa4982d ?_
            exact wk_ireturn xd_edb16ba1 xr_0c17d896 wk_z1 (hk _ _ hVJO (ss_P_y (sp_l_z er (fun z => z.elim hw12 hw11)) (by decide) (by omega) (by omega) hMJO (by omega)))
        · have h44_3 := aw_ne_f (a := ((wJA.1 2 8).toInt : Int)) (b := (12 : Int)) rfl (show (((Int8.ofInt 12).toInt32)).toInt = 12 from by decide) h44_3
          have hw12 : ps_wd (tx_tk T n m p9) 12 := hKJA.elim (fun z => z.2) (fun z => absurd z.1 (by omega))
          have hmore : ps_wd (tx_tk T n m p9) 12 ∨ ps_wd (tx_tk T n m p9) 11 := .inl hw12
          have ht1 : (tx_tk T n m p9).1 = 1 := hw12.1
          refine wk_iconst xd_87c856d0 ?_
          refine wk_istore xd_ee3f86e0 (by rw [xm_d3e1bb2d]; rfl) rfl ?_
          refine wk_goto xd_db337997 (t := 77) rfl ?_
          refine wk_aload_n xd_6a3ce0ed rfl ?_
          obtain ⟨wn8_, hCn8_, hVn8_, hNn8_⟩ := cs_next (ss_c hMJA) ⟨by omega, by omega⟩
          have hMn8_ := ss_of hMJA hVn8_ hNn8_
          have hVn8_a := ss_V_tr hVJA (ss_V_c hVn8_)
          refine wk_call (kd := 0) (i := 60) xd_7146cf34 rfl (wk_cal (as := [.inr (.inr (some 2))]) (t := []) xl_877ee59a rfl xn_568f4fa7 xc_1d38a579 rfl rfl xv_65cfb41b rfl) (cm_C_mono (by omega) hCn8_) ?_
          refine aw_iinc (a := ((i : Int) : Int)) (b := (1 : Int)) (e := ((i : Int) + 1 : Int)) xd_33f5c8ff (by rw [xm_d3e1bb2d]; rfl) rfl rfl hz (show ((Int32.ofInt 1)).toInt = 1 from by decide) (by omega) (by omega) (by omega) (fun v9_ p9_ => ?_)
          refine wk_goto xd_2c4679b5 (t := 9) rfl ?_
          refine ih (i + 1) o9 (tx_tk T n m p9).2.2.1 sJA a 1 _ _ _ wn8_ (fun x w9 a9 b9 => hk x w9 a9 ?_) (by omega) (by omega) hVn8_a (ss_V_R (w := w1) hVn8_a hR1) hMn8_ (by omega) (by omega) h1 (show ((Int32.ofInt 1)).toInt = 1 from by decide) (by omega) (by omega) (by omega)
          rw [sp_l_m er hmore]
          exact b9
theorem so_cond {T : Nat → Int} {n m : Nat} {h : Nat → Int} {nm : Nat → Nat} {P : Nat → Nat → sp_R} (N : Nat) (dv : Int) (ho : ss_X T n m h nm (4 + N) 69 dv P) : ss_X T n m h nm (5 + N) 68 dv (fun o p => sp_lp T n m P 21 o p) := by
  intro w q p o st hq hR hM hst hol
  have h9 : ∃ oo, cm_C ((4 + N) + 1) 68 [.inr (.inr (some 111)), .inr (.inr (some 2)), .inr (.inr (some 4)), .inl q] w oo ∧ (fun oo : cm_O => ∃ x w', oo = (some (.inl x), w') ∧ ss_V w w' ∧ ss_P T n m (sp_lp T n m P 21 o p) o st x w') oo := by
    refine wk_entry (by rw [xm_d3e1bb2d]; exact Nat.le_of_ble_eq_true rfl) ?_
    rw [show cm_ent 68 [.inr (.inr (some 111)), .inr (.inr (some 2)), .inr (.inr (some 4)), .inl q] = [some (.inr (.inr (some 111))), some (.inr (.inr (some 2))), some (.inr (.inr (some 4))), some (.inl q), none, none, none] from by unfold cm_ent; rw [xm_d3e1bb2d]; rfl]
    refine wk_iconst xd_c6a56707 ?_
    refine wk_istore xd_64e0cbb7 (by rw [xm_d3e1bb2d]; rfl) rfl ?_
    refine wk_iconst xd_ffddca47 ?_
    refine wk_istore xd_120915c7 (by rw [xm_d3e1bb2d]; rfl) rfl ?_
    refine wk_iconst xd_b4543d87 ?_
    refine wk_istore xd_6cd1c257 (by rw [xm_d3e1bb2d]; rfl) rfl ?_
    exact so_lp N dv ho hq hR hst _ 21 0 o p st 0 0 _ _ _ w (fun x w2 a9 b9 => ⟨x, w2, rfl, a9, b9⟩) (by omega) (show ((Int32.ofInt 0)).toInt = 0 from by decide) (ss_V_rf w) hR hM (by omega) hol (show ((Int32.ofInt 0)).toInt = 0 from by decide) (show ((Int32.ofInt 0)).toInt = 0 from by decide) (by omega) (by omega) (by omega)
  obtain ⟨oo, hC, x, w', rfl, a⟩ := h9
  exact ⟨x, w', cm_C_mono (by omega) hC, a⟩
theorem so_all {T : Nat → Int} {n m : Nat} {h : Nat → Int} {nm : Nat → Nat} : ∀ e : Nat, e ≤ 8 → ss_X T n m h nm (4 + 2 * e) 69 (9 - (e : Int)) (fun o p => sp_one T n m h nm e o p)
  | 0, _ => so_0
  | e + 1, he => by
    have r1 := so_all (T := T) (n := n) (m := m) (h := h) (nm := nm) e (by omega)
    have r2 := so_cond (2 * e) _ r1
    have up : ss_X T n m h nm (5 + 2 * e) 69 (9 - (e : Int)) (fun o p => sp_one T n m h nm e o p) := fun w q p o st a b c d f => by
      obtain ⟨x, w', u1, u2, u3⟩ := r1 w q p o st a b c d f
      exact ⟨x, w', cm_C_mono (by omega) u1, u2, u3⟩
    have r := so_s (by omega) r2 up
    rw [show (9 - ((e + 1 : Nat) : Int)) = 8 - (e : Int) from by omega, show 4 + 2 * (e + 1) = 6 + 2 * e from by omega]
    exact r
theorem so_c1 {T : Nat → Int} {n m : Nat} {h : Nat → Int} {nm : Nat → Nat} : ss_X T n m h nm 21 68 1 (fun o p => sp_lp T n m (fun o p => sp_one T n m h nm 8 o p) 21 o p) := so_cond 16 1 (so_all 8 (by omega))

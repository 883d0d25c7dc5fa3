/-! ## the class's book, exactly (wip/p22/gen_bk.py) -/
def cb_V (w w' : cm_W) : Prop := ∀ k i, ¬ (k = 2 ∧ 4 ≤ i ∧ i ≤ 12) → ¬ (18 ≤ k ∧ k ≤ 32) → ¬ (116 ≤ k ∧ k ≤ 119) → w'.1 k i = w.1 k i ∧ w'.2 k i = w.2 k i
theorem cb_V_rf (w : cm_W) : cb_V w w := fun _ _ _ _ _ => ⟨rfl, rfl⟩
theorem cb_V_tr {w w1 w2 : cm_W} (h1 : cb_V w w1) (h2 : cb_V w1 w2) : cb_V w w2 := fun k i a b c => ⟨(h2 k i a b c).1.trans (h1 k i a b c).1, (h2 k i a b c).2.trans (h1 k i a b c).2⟩
theorem cb_V_c {w w' : cm_W} (h : cs_V w w') : cb_V w w' := fun k i a b _ => h k i a b
theorem cb_V_u1 {w : cm_W} {c i : Nat} {x : Int32} (h1 : 116 ≤ c) (h2 : c ≤ 119) : cb_V w (cm_u1 w c i x) := fun k j _ _ a => ⟨hs_u1_ne (by omega), rfl⟩
theorem cb_V_R {w w' : cm_W} {h : Nat → Int} {nm : Nat → Nat} (hV : cb_V w w') (hR : vl_R w 4 h nm) : vl_R w' 4 h nm := vl_R_f2 (fun k i _ _ => (hV k i (by omega) (by omega) (by omega)).1) (fun k i _ _ => (hV k i (by omega) (by omega) (by omega)).2) hR
def cb_M (w : cm_W) (T : Nat → Int) (n m p l : Nat) : Prop := rd_L w T n m p ∧ (w.1 2 11).toInt = 0 ∧ (w.1 116 2).toInt = (l : Int)
theorem cb_c {w : cm_W} {T : Nat → Int} {n m p l : Nat} (h : cb_M w T n m p l) : cs_M w T n m p (vl_H w 18) (vl_N w 18) (w.1 32 2).toInt (w.1 32 3).toInt := ⟨h.1, h.2.1, rfl, rfl, rfl, rfl⟩
theorem cb_of {w w' : cm_W} {T : Nat → Int} {n m p q l : Nat} {f : Nat → Int} {g : Nat → Int64} {a b : Int} (h : cb_M w T n m p l) (hV : cs_V w w') (hM : cs_M w' T n m q f g a b) : cb_M w' T n m q l := ⟨hM.1, hM.2.1, by rw [(hV 116 2 (by omega) (by omega)).1]; exact h.2.2⟩
theorem cb_u {w : cm_W} {T : Nat → Int} {n m p l c i : Nat} {x : Int32} (h : cb_M w T n m p l) (h1 : 117 ≤ c) (h2 : c ≤ 119) : cb_M (cm_u1 w c i x) T n m p l := ⟨rd_L_fr (fun k j hk => ⟨hs_u1_ne (by omega), rfl⟩) h.1, by rw [hs_u1_ne (by omega)]; exact h.2.1, by rw [hs_u1_ne (by omega)]; exact h.2.2⟩
def cb_P (T : Nat → Int) (n m l : Nat) (r : bk_R) (x : Int32) (w : cm_W) : Prop := match r with
  | .inl e => x.toInt = 0 ∧ cs_B w e.1 e.2
  | .inr p => x.toInt = 1 ∧ cb_M w T n m p l
theorem cb_P_e {T : Nat → Int} {n m l k q : Nat} {r : bk_R} {x : Int32} {w : cm_W} (hr : r = .inl (k, q)) (hx : x.toInt = 0) (hB : cs_B w k q) : cb_P T n m l r x w := by
  rw [hr]
  exact ⟨hx, hB⟩
theorem cb_P_y {T : Nat → Int} {n m l p : Nat} {r : bk_R} {x : Int32} {w : cm_W} (hr : r = .inr p) (hx : x.toInt = 1) (hM : cb_M w T n m p l) : cb_P T n m l r x w := by
  rw [hr]
  exact ⟨hx, hM⟩
theorem cb_P_c {T : Nat → Int} {n m l : Nat} {r : bk_R} {x : Int32} {w : cm_W} (h : cb_P T n m l r x w) : (∃ k q, r = .inl (k, q) ∧ x.toInt = 0 ∧ cs_B w k q) ∨ (∃ p', r = .inr p' ∧ x.toInt = 1 ∧ cb_M w T n m p' l) := by
  match r, h with
  | .inl (k, q), h => exact .inl ⟨k, q, rfl, h.1, h.2⟩
  | .inr p', h => exact .inr ⟨p', rfl, h.1, h.2⟩
theorem ba_6 {T : Nat → Int} {n m : Nat} {h : Nat → Int} {nm : Nat → Nat} {w : cm_W} {p l : Nat} (hR : vl_R w 4 h nm) (hM : cb_M w T n m p l) (hl : l < 40) (hw : ps_wd (tx_tk T n m p) 6) (hk : (w.1 2 8).toInt = 6) : ∃ x w', cm_C 5 170 [.inr (.inr (some 116))] w (some (.inl x), w') ∧ cb_V w w' ∧ cb_P T n m l (bk_act T n m h nm p) x w' := by
  have hs : 1 ≤ (tx_tk T n m p).1 ∧ (tx_tk T n m p).1 ≤ 3 := by have := hw.1; omega
  have h9 : ∃ oo, cm_C (4 + 1) 170 [.inr (.inr (some 116))] w oo ∧ (fun oo : cm_O => ∃ x w', oo = (some (.inl x), w') ∧ cb_V w w' ∧ cb_P T n m l (bk_act T n m h nm p) x w') oo := by
    refine wk_entry (by rw [xm_b8c623ed]; exact Nat.le_of_ble_eq_true rfl) ?_
    rw [show cm_ent 170 [.inr (.inr (some 116))] = [some (.inr (.inr (some 116))), none] from by unfold cm_ent; rw [xm_b8c623ed]; rfl]
    refine wk_aload_n xd_ea2ea90c rfl ?_
    refine wk_getR xf_55fe57a6 xd_603608ef ?_
    refine wk_getI xf_a1a4aaa1 xd_a62dccd9 ?_
    refine wk_istore_n xd_a5557413 (by rw [xm_b8c623ed]; rfl) rfl ?_
    refine wk_iload_n xd_8df410f7 rfl ?_
    refine wk_bipush xd_c2aae3f7 ?_
    refine wk_icmp xd_d1e72956 (t := 35) rfl (fun _ => ?_) (fun h => absurd (aw_eq_f (show ((w.1 2 8)).toInt = (6 : Int) from hk) (show (((Int8.ofInt 6).toInt32)).toInt = 6 from by decide) h) (by omega))
    refine wk_aload_n xd_c3203881 rfl ?_
    refine wk_getR xf_55fe57a6 xd_f9754268 ?_
    obtain ⟨wn2_, hCn2_, hVn2_, hNn2_⟩ := cs_next (cb_c hM) hs
    have hMn2_ := cb_of hM hVn2_ hNn2_
    have hVn2_a := cb_V_tr (cb_V_rf w) (cb_V_c hVn2_)
    refine wk_call (kd := 0) (i := 71) xd_7f76c889 rfl (wk_cal (as := [.inr (.inr (some 2))]) (t := []) xl_6e0e7c3b rfl xn_568f4fa7 xc_1d38a579 rfl rfl xv_65cfb41b rfl) (cm_C_mono (by omega) hCn2_) ?_
    refine wk_aload_n xd_84819758 rfl ?_
    refine wk_getR xf_3b6872e6 xd_faa8cdc0 ?_
    refine wk_aload_n xd_84dd36cb rfl ?_
    refine wk_getI xf_fac211bd xd_16786c58 ?_
    refine wk_iload_n xd_8f51db4b rfl ?_
    refine aw_iastore (i := l) xf_cc076ad5 (show ((wn2_.1 116 2)).toInt = ((l : Int) : Int) from hMn2_.2.2) (by omega) (by omega) xd_45623c77 ?_
    have hV3_ := cb_V_tr hVn2_a (cb_V_u1 (w := wn2_) (c := 117) (i := l) (x := (w.1 2 8)) (by omega) (by omega))
    have hM4_ := cb_u (c := 117) (i := l) (x := (w.1 2 8)) hMn2_ (by omega) (by omega)
    refine wk_aload_n xd_05a4f27f rfl ?_
    refine wk_getR xf_9cda9b4a xd_10a50926 ?_
    refine wk_aload_n xd_05f853ec rfl ?_
    refine wk_getI xf_fac211bd xd_f165cacf ?_
    refine wk_iload_n xd_d74f7263 rfl ?_
    refine wk_bipush xd_7c176c09 ?_
    refine wk_icmp xd_192ae472 (t := 81) rfl (fun h => absurd (aw_ne_t (show ((w.1 2 8)).toInt = (6 : Int) from hk) (show (((Int8.ofInt 6).toInt32)).toInt = 6 from by decide) h) (by omega)) (fun _ => ?_)
    refine wk_aload_n xd_5de6fac4 rfl ?_
    refine wk_getR xf_55fe57a6 xd_9177e22f ?_
    refine wk_aload_n xd_3109ed99 rfl ?_
    refine wk_getR xf_be91acea xd_d841c51f ?_
    refine wk_iconst xd_fe93f237 ?_
    obtain ⟨xl, wl, hCl, hVl, hl⟩ := ss_take1 (z := (Int32.ofInt 1)) (by decide) (cb_c hM4_) (cb_V_R hV3_ hR)
    have hVla := cb_V_tr hV3_ (cb_V_c hVl)
    have hl9 : (wl.1 116 2).toInt = (l : Int) := by rw [(hVl 116 2 (by omega) (by omega)).1]; exact hM4_.2.2
    refine wk_call (kd := 0) (i := 77) xd_025c0c4c rfl (wk_cal (as := [.inr (.inr (some 2)), .inr (.inr (some 4)), .inl (Int32.ofInt 1)]) (t := [.inl ((cm_u1 wn2_ 117 l (w.1 2 8)).1 116 2), .inr (.inr (some 119))]) xl_b0c14be1 rfl xn_725a18eb xc_be714b02 rfl rfl xv_0f9d2d2e rfl) (cm_C_mono (by omega) hCl) ?_
    rcases hl with ⟨i9, el, hx, hi, hN⟩ | ⟨k9, q9, el, hx, hB⟩
    · have hMl := cb_of hM4_ hVl hN
      refine wk_goto xd_a35d96e0 (t := 82) rfl ?_
      refine aw_iastore (i := l) xf_079c3f55 (show (((cm_u1 wn2_ 117 l (w.1 2 8)).1 116 2)).toInt = ((l : Int) : Int) from hMn2_.2.2) (by omega) (by omega) xd_ccb66f54 ?_
      have hV6_ := cb_V_tr hVla (cb_V_u1 (w := wl) (c := 119) (i := l) (x := xl) (by omega) (by omega))
      have hM7_ := cb_u (c := 119) (i := l) (x := xl) hMl (by omega) (by omega)
      refine wk_aload_n xd_a4f9df6d rfl ?_
      refine wk_getR xf_9cda9b4a xd_4655e87b ?_
      refine wk_aload_n xd_a4a57efe rfl ?_
      refine wk_getI xf_fac211bd xd_8b9eb825 ?_
      refine aw_iaload (i := l) xf_079c3f55 (show (((cm_u1 wl 119 l xl).1 116 2)).toInt = ((l : Int) : Int) from hMl.2.2) (by omega) (by omega) xd_3f5ac29b ?_
      have hwt : (((cm_u1 wl 119 l xl).1 119 l)).toInt = (i9 : Int) := by rw [hs_u1_self]; exact hx
      refine wk_iconst xd_4620f256 ?_
      refine wk_icmp xd_4b49b84d (t := 100) rfl (fun h93_7 => ?_) (fun h93_7 => ?_)
      · have h93_7 := aw_eq_t (a := (i9 : Int)) (b := ((-1) : Int)) hwt (show ((Int32.ofInt (-1))).toInt = (-1) from by decide) h93_7
        refine wk_iconst xd_82f1c6ec ?_
        exfalso
        first
        | omega
        | have hlb := ps_look_b el
          omega
      · have h93_7 := aw_eq_f (a := (i9 : Int)) (b := ((-1) : Int)) hwt (show ((Int32.ofInt (-1))).toInt = (-1) from by decide) h93_7
        refine wk_iconst xd_3db00aeb ?_
        refine wk_goto xd_0c0dea71 (t := 101) rfl ?_
        exact wk_ireturn xd_d8910966 xr_abdb0b41 wk_z1 ⟨_, _, rfl, hV6_, cb_P_y ((bk_a6 hw).trans (bk_n_y el)) (show ((Int32.ofInt 1)).toInt = 1 from by decide) hM7_⟩
    · skip
      refine wk_goto xd_a35d96e0 (t := 82) rfl ?_
      refine aw_iastore (i := l) xf_079c3f55 (show (((cm_u1 wn2_ 117 l (w.1 2 8)).1 116 2)).toInt = ((l : Int) : Int) from hMn2_.2.2) (by omega) (by omega) xd_ccb66f54 ?_
      have hV9_ := cb_V_tr hVla (cb_V_u1 (w := wl) (c := 119) (i := l) (x := xl) (by omega) (by omega))
      have hB10_ := cs_B_u1 (c := 119) (i := l) (x := xl) hB (by omega)
      refine wk_aload_n xd_a4f9df6d rfl ?_
      refine wk_getR xf_9cda9b4a xd_4655e87b ?_
      refine wk_aload_n xd_a4a57efe rfl ?_
      refine wk_getI xf_fac211bd xd_8b9eb825 ?_
      refine aw_iaload (i := l) xf_079c3f55 (show (((cm_u1 wl 119 l xl).1 116 2)).toInt = ((l : Int) : Int) from hl9) (by omega) (by omega) xd_3f5ac29b ?_
      have hwt : (((cm_u1 wl 119 l xl).1 119 l)).toInt = ((-1) : Int) := by rw [hs_u1_self]; exact hx
      refine wk_iconst xd_4620f256 ?_
      refine wk_icmp xd_4b49b84d (t := 100) rfl (fun _ => ?_) (fun h => absurd (aw_eq_f hwt (show ((Int32.ofInt (-1))).toInt = (-1) from by decide) h) (by omega))
      refine wk_iconst xd_82f1c6ec ?_
      exact wk_ireturn xd_d8910966 xr_abdb0b41 wk_z0 ⟨_, _, rfl, hV9_, cb_P_e ((bk_a6 hw).trans (bk_n_e el)) (show ((Int32.ofInt 0)).toInt = 0 from by decide) hB10_⟩
  obtain ⟨oo, hC, x, w', rfl, a⟩ := h9
  exact ⟨x, w', hC, a⟩
theorem ba_7 {T : Nat → Int} {n m : Nat} {h : Nat → Int} {nm : Nat → Nat} {w : cm_W} {p l : Nat} (hR : vl_R w 4 h nm) (hM : cb_M w T n m p l) (hl : l < 40) (hw : ps_wd (tx_tk T n m p) 7) (hk : (w.1 2 8).toInt = 7) : ∃ x w', cm_C 5 170 [.inr (.inr (some 116))] w (some (.inl x), w') ∧ cb_V w w' ∧ cb_P T n m l (bk_act T n m h nm p) x w' := by
  have hs : 1 ≤ (tx_tk T n m p).1 ∧ (tx_tk T n m p).1 ≤ 3 := by have := hw.1; omega
  have h9 : ∃ oo, cm_C (4 + 1) 170 [.inr (.inr (some 116))] w oo ∧ (fun oo : cm_O => ∃ x w', oo = (some (.inl x), w') ∧ cb_V w w' ∧ cb_P T n m l (bk_act T n m h nm p) x w') oo := by
    refine wk_entry (by rw [xm_b8c623ed]; exact Nat.le_of_ble_eq_true rfl) ?_
    rw [show cm_ent 170 [.inr (.inr (some 116))] = [some (.inr (.inr (some 116))), none] from by unfold cm_ent; rw [xm_b8c623ed]; rfl]
    refine wk_aload_n xd_ea2ea90c rfl ?_
    refine wk_getR xf_55fe57a6 xd_603608ef ?_
    refine wk_getI xf_a1a4aaa1 xd_a62dccd9 ?_
    refine wk_istore_n xd_a5557413 (by rw [xm_b8c623ed]; rfl) rfl ?_
    refine wk_iload_n xd_8df410f7 rfl ?_
    refine wk_bipush xd_c2aae3f7 ?_
    refine wk_icmp xd_d1e72956 (t := 35) rfl (fun h => absurd (aw_eq_t (show ((w.1 2 8)).toInt = (7 : Int) from hk) (show (((Int8.ofInt 6).toInt32)).toInt = 6 from by decide) h) (by omega)) (fun _ => ?_)
    refine wk_iload_n xd_e60be487 rfl ?_
    refine wk_bipush xd_6b6f4e17 ?_
    refine wk_icmp xd_973fb8b7 (t := 35) rfl (fun _ => ?_) (fun h => absurd (aw_eq_f (show ((w.1 2 8)).toInt = (7 : Int) from hk) (show (((Int8.ofInt 7).toInt32)).toInt = 7 from by decide) h) (by omega))
    refine wk_aload_n xd_c3203881 rfl ?_
    refine wk_getR xf_55fe57a6 xd_f9754268 ?_
    obtain ⟨wn3_, hCn3_, hVn3_, hNn3_⟩ := cs_next (cb_c hM) hs
    have hMn3_ := cb_of hM hVn3_ hNn3_
    have hVn3_a := cb_V_tr (cb_V_rf w) (cb_V_c hVn3_)
    refine wk_call (kd := 0) (i := 71) xd_7f76c889 rfl (wk_cal (as := [.inr (.inr (some 2))]) (t := []) xl_6e0e7c3b rfl xn_568f4fa7 xc_1d38a579 rfl rfl xv_65cfb41b rfl) (cm_C_mono (by omega) hCn3_) ?_
    refine wk_aload_n xd_84819758 rfl ?_
    refine wk_getR xf_3b6872e6 xd_faa8cdc0 ?_
    refine wk_aload_n xd_84dd36cb rfl ?_
    refine wk_getI xf_fac211bd xd_16786c58 ?_
    refine wk_iload_n xd_8f51db4b rfl ?_
    refine aw_iastore (i := l) xf_cc076ad5 (show ((wn3_.1 116 2)).toInt = ((l : Int) : Int) from hMn3_.2.2) (by omega) (by omega) xd_45623c77 ?_
    have hV4_ := cb_V_tr hVn3_a (cb_V_u1 (w := wn3_) (c := 117) (i := l) (x := (w.1 2 8)) (by omega) (by omega))
    have hM5_ := cb_u (c := 117) (i := l) (x := (w.1 2 8)) hMn3_ (by omega) (by omega)
    refine wk_aload_n xd_05a4f27f rfl ?_
    refine wk_getR xf_9cda9b4a xd_10a50926 ?_
    refine wk_aload_n xd_05f853ec rfl ?_
    refine wk_getI xf_fac211bd xd_f165cacf ?_
    refine wk_iload_n xd_d74f7263 rfl ?_
    refine wk_bipush xd_7c176c09 ?_
    refine wk_icmp xd_192ae472 (t := 81) rfl (fun _ => ?_) (fun h => absurd (aw_ne_f (show ((w.1 2 8)).toInt = (7 : Int) from hk) (show (((Int8.ofInt 6).toInt32)).toInt = 6 from by decide) h) (by omega))
    refine wk_iconst xd_fe7af7cf ?_
    refine aw_iastore (i := l) xf_079c3f55 (show (((cm_u1 wn3_ 117 l (w.1 2 8)).1 116 2)).toInt = ((l : Int) : Int) from hMn3_.2.2) (by omega) (by omega) xd_ccb66f54 ?_
    have hV7_ := cb_V_tr hV4_ (cb_V_u1 (w := (cm_u1 wn3_ 117 l (w.1 2 8))) (c := 119) (i := l) (x := (Int32.ofInt 0)) (by omega) (by omega))
    have hM8_ := cb_u (c := 119) (i := l) (x := (Int32.ofInt 0)) hM5_ (by omega) (by omega)
    refine wk_aload_n xd_a4f9df6d rfl ?_
    refine wk_getR xf_9cda9b4a xd_4655e87b ?_
    refine wk_aload_n xd_a4a57efe rfl ?_
    refine wk_getI xf_fac211bd xd_8b9eb825 ?_
    refine aw_iaload (i := l) xf_079c3f55 (show (((cm_u1 (cm_u1 wn3_ 117 l (w.1 2 8)) 119 l (Int32.ofInt 0)).1 116 2)).toInt = ((l : Int) : Int) from hMn3_.2.2) (by omega) (by omega) xd_3f5ac29b ?_
    have hwt : (((cm_u1 (cm_u1 wn3_ 117 l (w.1 2 8)) 119 l (Int32.ofInt 0)).1 119 l)).toInt = (0 : Int) := by rw [hs_u1_self]; exact (show ((Int32.ofInt 0)).toInt = 0 from by decide)
    refine wk_iconst xd_4620f256 ?_
    refine wk_icmp xd_4b49b84d (t := 100) rfl (fun h => absurd (aw_eq_t hwt (show ((Int32.ofInt (-1))).toInt = (-1) from by decide) h) (by omega)) (fun _ => ?_)
    refine wk_iconst xd_3db00aeb ?_
    refine wk_goto xd_0c0dea71 (t := 101) rfl ?_
    exact wk_ireturn xd_d8910966 xr_abdb0b41 wk_z1 ⟨_, _, rfl, hV7_, cb_P_y (bk_a78 (ps_wd_ne (i := 6) hw (by omega) (by omega) (by omega)) (.inl hw)) (show ((Int32.ofInt 1)).toInt = 1 from by decide) hM8_⟩
  obtain ⟨oo, hC, x, w', rfl, a⟩ := h9
  exact ⟨x, w', hC, a⟩
theorem ba_8 {T : Nat → Int} {n m : Nat} {h : Nat → Int} {nm : Nat → Nat} {w : cm_W} {p l : Nat} (hR : vl_R w 4 h nm) (hM : cb_M w T n m p l) (hl : l < 40) (hw : ps_wd (tx_tk T n m p) 8) (hk : (w.1 2 8).toInt = 8) : ∃ x w', cm_C 5 170 [.inr (.inr (some 116))] w (some (.inl x), w') ∧ cb_V w w' ∧ cb_P T n m l (bk_act T n m h nm p) x w' := by
  have hs : 1 ≤ (tx_tk T n m p).1 ∧ (tx_tk T n m p).1 ≤ 3 := by have := hw.1; omega
  have h9 : ∃ oo, cm_C (4 + 1) 170 [.inr (.inr (some 116))] w oo ∧ (fun oo : cm_O => ∃ x w', oo = (some (.inl x), w') ∧ cb_V w w' ∧ cb_P T n m l (bk_act T n m h nm p) x w') oo := by
    refine wk_entry (by rw [xm_b8c623ed]; exact Nat.le_of_ble_eq_true rfl) ?_
    rw [show cm_ent 170 [.inr (.inr (some 116))] = [some (.inr (.inr (some 116))), none] from by unfold cm_ent; rw [xm_b8c623ed]; rfl]
    refine wk_aload_n xd_ea2ea90c rfl ?_
    refine wk_getR xf_55fe57a6 xd_603608ef ?_
    refine wk_getI xf_a1a4aaa1 xd_a62dccd9 ?_
    refine wk_istore_n xd_a5557413 (by rw [xm_b8c623ed]; rfl) rfl ?_
    refine wk_iload_n xd_8df410f7 rfl ?_
    refine wk_bipush xd_c2aae3f7 ?_
    refine wk_icmp xd_d1e72956 (t := 35) rfl (fun h => absurd (aw_eq_t (show ((w.1 2 8)).toInt = (8 : Int) from hk) (show (((Int8.ofInt 6).toInt32)).toInt = 6 from by decide) h) (by omega)) (fun _ => ?_)
    refine wk_iload_n xd_e60be487 rfl ?_
    refine wk_bipush xd_6b6f4e17 ?_
    refine wk_icmp xd_973fb8b7 (t := 35) rfl (fun h => absurd (aw_eq_t (show ((w.1 2 8)).toInt = (8 : Int) from hk) (show (((Int8.ofInt 7).toInt32)).toInt = 7 from by decide) h) (by omega)) (fun _ => ?_)
    refine wk_iload_n xd_be49ec3c rfl ?_
    refine wk_bipush xd_c37b73fb ?_
    refine wk_icmp xd_7e503f0e (t := 35) rfl (fun _ => ?_) (fun h => absurd (aw_eq_f (show ((w.1 2 8)).toInt = (8 : Int) from hk) (show (((Int8.ofInt 8).toInt32)).toInt = 8 from by decide) h) (by omega))
    refine wk_aload_n xd_c3203881 rfl ?_
    refine wk_getR xf_55fe57a6 xd_f9754268 ?_
    obtain ⟨wn4_, hCn4_, hVn4_, hNn4_⟩ := cs_next (cb_c hM) hs
    have hMn4_ := cb_of hM hVn4_ hNn4_
    have hVn4_a := cb_V_tr (cb_V_rf w) (cb_V_c hVn4_)
    refine wk_call (kd := 0) (i := 71) xd_7f76c889 rfl (wk_cal (as := [.inr (.inr (some 2))]) (t := []) xl_6e0e7c3b rfl xn_568f4fa7 xc_1d38a579 rfl rfl xv_65cfb41b rfl) (cm_C_mono (by omega) hCn4_) ?_
    refine wk_aload_n xd_84819758 rfl ?_
    refine wk_getR xf_3b6872e6 xd_faa8cdc0 ?_
    refine wk_aload_n xd_84dd36cb rfl ?_
    refine wk_getI xf_fac211bd xd_16786c58 ?_
    refine wk_iload_n xd_8f51db4b rfl ?_
    refine aw_iastore (i := l) xf_cc076ad5 (show ((wn4_.1 116 2)).toInt = ((l : Int) : Int) from hMn4_.2.2) (by omega) (by omega) xd_45623c77 ?_
    have hV5_ := cb_V_tr hVn4_a (cb_V_u1 (w := wn4_) (c := 117) (i := l) (x := (w.1 2 8)) (by omega) (by omega))
    have hM6_ := cb_u (c := 117) (i := l) (x := (w.1 2 8)) hMn4_ (by omega) (by omega)
    refine wk_aload_n xd_05a4f27f rfl ?_
    refine wk_getR xf_9cda9b4a xd_10a50926 ?_
    refine wk_aload_n xd_05f853ec rfl ?_
    refine wk_getI xf_fac211bd xd_f165cacf ?_
    refine wk_iload_n xd_d74f7263 rfl ?_
    refine wk_bipush xd_7c176c09 ?_
    refine wk_icmp xd_192ae472 (t := 81) rfl (fun _ => ?_) (fun h => absurd (aw_ne_f (show ((w.1 2 8)).toInt = (8 : Int) from hk) (show (((Int8.ofInt 6).toInt32)).toInt = 6 from by decide) h) (by omega))
    refine wk_iconst xd_fe7af7cf ?_
    refine aw_iastore (i := l) xf_079c3f55 (show (((cm_u1 wn4_ 117 l (w.1 2 8)).1 116 2)).toInt = ((l : Int) : Int) from hMn4_.2.2) (by omega) (by omega) xd_ccb66f54 ?_
    have hV8_ := cb_V_tr hV5_ (cb_V_u1 (w := (cm_u1 wn4_ 117 l (w.1 2 8))) (c := 119) (i := l) (x := (Int32.ofInt 0)) (by omega) (by omega))
    have hM9_ := cb_u (c := 119) (i := l) (x := (Int32.ofInt 0)) hM6_ (by omega) (by omega)
    refine wk_aload_n xd_a4f9df6d rfl ?_
    refine wk_getR xf_9cda9b4a xd_4655e87b ?_
    refine wk_aload_n xd_a4a57efe rfl ?_
    refine wk_getI xf_fac211bd xd_8b9eb825 ?_
    refine aw_iaload (i := l) xf_079c3f55 (show (((cm_u1 (cm_u1 wn4_ 117 l (w.1 2 8)) 119 l (Int32.ofInt 0)).1 116 2)).toInt = ((l : Int) : Int) from hMn4_.2.2) (by omega) (by omega) xd_3f5ac29b ?_
    have hwt : (((cm_u1 (cm_u1 wn4_ 117 l (w.1 2 8)) 119 l (Int32.ofInt 0)).1 119 l)).toInt = (0 : Int) := by rw [hs_u1_self]; exact (show ((Int32.ofInt 0)).toInt = 0 from by decide)
    refine wk_iconst xd_4620f256 ?_
    refine wk_icmp xd_4b49b84d (t := 100) rfl (fun h => absurd (aw_eq_t hwt (show ((Int32.ofInt (-1))).toInt = (-1) from by decide) h) (by omega)) (fun _ => ?_)
    refine wk_iconst xd_3db00aeb ?_
    refine wk_goto xd_0c0dea71 (t := 101) rfl ?_
    exact wk_ireturn xd_d8910966 xr_abdb0b41 wk_z1 ⟨_, _, rfl, hV8_, cb_P_y (bk_a78 (ps_wd_ne (i := 6) hw (by omega) (by omega) (by omega)) (.inr hw)) (show ((Int32.ofInt 1)).toInt = 1 from by decide) hM9_⟩
  obtain ⟨oo, hC, x, w', rfl, a⟩ := h9
  exact ⟨x, w', hC, a⟩
theorem ba_no {T : Nat → Int} {n m : Nat} {h : Nat → Int} {nm : Nat → Nat} {w : cm_W} {p l : Nat} (hR : vl_R w 4 h nm) (hM : cb_M w T n m p l) (hl : l < 40) (h6 : ¬ ps_wd (tx_tk T n m p) 6) (h7 : ¬ ps_wd (tx_tk T n m p) 7) (h8 : ¬ ps_wd (tx_tk T n m p) 8) (hk : (w.1 2 8).toInt ≠ 6 ∧ (w.1 2 8).toInt ≠ 7 ∧ (w.1 2 8).toInt ≠ 8) : ∃ x w', cm_C 5 170 [.inr (.inr (some 116))] w (some (.inl x), w') ∧ cb_V w w' ∧ cb_P T n m l (bk_act T n m h nm p) x w' := by
  have h9 : ∃ oo, cm_C (4 + 1) 170 [.inr (.inr (some 116))] w oo ∧ (fun oo : cm_O => ∃ x w', oo = (some (.inl x), w') ∧ cb_V w w' ∧ cb_P T n m l (bk_act T n m h nm p) x w') oo := by
    refine wk_entry (by rw [xm_b8c623ed]; exact Nat.le_of_ble_eq_true rfl) ?_
    rw [show cm_ent 170 [.inr (.inr (some 116))] = [some (.inr (.inr (some 116))), none] from by unfold cm_ent; rw [xm_b8c623ed]; rfl]
    refine wk_aload_n xd_ea2ea90c rfl ?_
    refine wk_getR xf_55fe57a6 xd_603608ef ?_
    refine wk_getI xf_a1a4aaa1 xd_a62dccd9 ?_
    refine wk_istore_n xd_a5557413 (by rw [xm_b8c623ed]; rfl) rfl ?_
    refine wk_iload_n xd_8df410f7 rfl ?_
    refine wk_bipush xd_c2aae3f7 ?_
    refine wk_icmp xd_d1e72956 (t := 35) rfl (fun h11_0 => ?_) (fun h11_0 => ?_)
    · have h11_0 := aw_eq_t (a := ((w.1 2 8).toInt : Int)) (b := (6 : Int)) rfl (show (((Int8.ofInt 6).toInt32)).toInt = 6 from by decide) h11_0
      exfalso
      omega
    · have h11_0 := aw_eq_f (a := ((w.1 2 8).toInt : Int)) (b := (6 : Int)) rfl (show (((Int8.ofInt 6).toInt32)).toInt = 6 from by decide) h11_0
      refine wk_iload_n xd_e60be487 rfl ?_
      refine wk_bipush xd_6b6f4e17 ?_
      refine wk_icmp xd_973fb8b7 (t := 35) rfl (fun h17_1 => ?_) (fun h17_1 => ?_)
      · have h17_1 := aw_eq_t (a := ((w.1 2 8).toInt : Int)) (b := (7 : Int)) rfl (show (((Int8.ofInt 7).toInt32)).toInt = 7 from by decide) h17_1
        exfalso
        omega
      · have h17_1 := aw_eq_f (a := ((w.1 2 8).toInt : Int)) (b := (7 : Int)) rfl (show (((Int8.ofInt 7).toInt32)).toInt = 7 from by decide) h17_1
        refine wk_iload_n xd_be49ec3c rfl ?_
        refine wk_bipush xd_c37b73fb ?_
        refine wk_icmp xd_7e503f0e (t := 35) rfl (fun h23_2 => ?_) (fun h23_2 => ?_)
        · have h23_2 := aw_eq_t (a := ((w.1 2 8).toInt : Int)) (b := (8 : Int)) rfl (show (((Int8.ofInt 8).toInt32)).toInt = 8 from by decide) h23_2
          exfalso
          omega
        · have h23_2 := aw_eq_f (a := ((w.1 2 8).toInt : Int)) (b := (8 : Int)) rfl (show (((Int8.ofInt 8).toInt32)).toInt = 8 from by decide) h23_2
          refine wk_aload_n xd_34e0649b rfl ?_
          refine wk_getR xf_55fe57a6 xd_bbe374f1 ?_
          refine wk_iconst xd_a26ec0a4 ?_
          obtain ⟨wr4_, hCr4_, hVr4_, hBr4_, -⟩ := cs_ref (k := (Int32.ofInt 1)) (c := 1) (cb_c hM) (by decide) (by decide)
          have hVr4_a := cb_V_tr (cb_V_rf w) (cb_V_c hVr4_)
          refine wk_call (kd := 0) (i := 68) xd_814c675c rfl (wk_cal (as := [.inr (.inr (some 2)), .inl (Int32.ofInt 1)]) (t := []) xl_f9664506 rfl xn_b5464d7d xc_49a83f99 rfl rfl xv_780065b9 rfl) (cm_C_mono (by omega) hCr4_) ?_
          exact wk_ireturn xd_1d8d1253 xr_abdb0b41 wk_z0 ⟨_, _, rfl, hVr4_a, cb_P_e (bk_an h6 h7 h8) (show ((Int32.ofInt 0)).toInt = 0 from by decide) hBr4_⟩
  obtain ⟨oo, hC, x, w', rfl, a⟩ := h9
  exact ⟨x, w', hC, a⟩
theorem ba_ok {T : Nat → Int} {n m : Nat} {h : Nat → Int} {nm : Nat → Nat} {w : cm_W} {p l : Nat} (hR : vl_R w 4 h nm) (hM : cb_M w T n m p l) (hl : l < 40) : ∃ x w', cm_C 5 170 [.inr (.inr (some 116))] w (some (.inl x), w') ∧ cb_V w w' ∧ cb_P T n m l (bk_act T n m h nm p) x w' := by
  rcases ss_kw hM.1.2.1 6 (by omega) with ⟨a, b⟩ | ⟨a6, b6⟩
  · exact ba_6 hR hM hl b a
  · rcases ss_kw hM.1.2.1 7 (by omega) with ⟨a, b⟩ | ⟨a7, b7⟩
    · exact ba_7 hR hM hl b a
    · rcases ss_kw hM.1.2.1 8 (by omega) with ⟨a, b⟩ | ⟨a8, b8⟩
      · exact ba_8 hR hM hl b a
      · exact ba_no hR hM hl b6 b7 b8 ⟨a6, a7, a8⟩
theorem bl_9 {T : Nat → Int} {n m : Nat} {h : Nat → Int} {nm : Nat → Nat} {w : cm_W} {p l : Nat} (hR : vl_R w 4 h nm) (hM : cb_M w T n m p l) (hw : ps_wd (tx_tk T n m p) 9) (hk : (w.1 2 8).toInt = 9) : ∃ x w', cm_C 6 171 [.inr (.inr (some 116))] w (some (.inl x), w') ∧ cb_V w w' ∧ cb_P T n m l (bk_line T n m h nm l p) x w' := by
  have hs : 1 ≤ (tx_tk T n m p).1 ∧ (tx_tk T n m p).1 ≤ 3 := by have := hw.1; omega
  have h9 : ∃ oo, cm_C (5 + 1) 171 [.inr (.inr (some 116))] w oo ∧ (fun oo : cm_O => ∃ x w', oo = (some (.inl x), w') ∧ cb_V w w' ∧ cb_P T n m l (bk_line T n m h nm l p) x w') oo := by
    refine wk_entry (by rw [xm_6cc5af68]; exact Nat.le_of_ble_eq_true rfl) ?_
    rw [show cm_ent 171 [.inr (.inr (some 116))] = [some (.inr (.inr (some 116))), none, none, none] from by unfold cm_ent; rw [xm_6cc5af68]; rfl]
    refine wk_aload_n xd_0d330f9b rfl ?_
    refine wk_getR xf_f075c7a8 xd_6183f5f2 ?_
    refine wk_getI xf_260261e2 xd_a79831c4 ?_
    refine wk_istore_n xd_cbd96f52 (by rw [xm_6cc5af68]; rfl) rfl ?_
    refine wk_iload_n xd_6ae9b660 rfl ?_
    refine wk_bipush xd_e571e428 ?_
    refine wk_icmp xd_14898242 (t := 24) rfl (fun _ => ?_) (fun h => absurd (aw_eq_f (show ((w.1 2 8)).toInt = (9 : Int) from hk) (show (((Int8.ofInt 9).toInt32)).toInt = 9 from by decide) h) (by omega))
    refine wk_iconst xd_bfc13657 ?_
    refine wk_istore_n xd_e4f3a5ab (by rw [xm_6cc5af68]; rfl) rfl ?_
    refine wk_iload_n xd_7aafffd7 rfl ?_
    refine wk_if xd_05771894 (t := 45) rfl (fun _ => ?_) (fun h => absurd (aw_eq_f (show ((Int32.ofInt 0)).toInt = 0 from by decide) hb_z h) (by omega))
    refine wk_iconst xd_452320ed ?_
    refine wk_istore_n xd_ea564995 (by rw [xm_6cc5af68]; rfl) rfl ?_
    refine wk_iload_n xd_6c816ee3 rfl ?_
    refine wk_iconst xd_01ea836d ?_
    refine wk_icmp xd_e4c2a6fe (t := 54) rfl (fun _ => ?_) (fun h => absurd (aw_ne_f (show ((Int32.ofInt 0)).toInt = 0 from by decide) (show ((Int32.ofInt (-1))).toInt = (-1) from by decide) h) (by omega))
    refine wk_aload_n xd_86e29b44 rfl ?_
    refine wk_getI xf_2d2091e5 xd_020435b6 ?_
    refine wk_bipush xd_50d21b06 ?_
    refine wk_icmp xd_3e79e76d (t := 72) rfl (fun h60_3 => ?_) (fun h60_3 => ?_)
    · have h60_3 := aw_lt_t (a := ((l : Int) : Int)) (b := (40 : Int)) (show ((w.1 116 2)).toInt = ((l : Int) : Int) from hM.2.2) (show (((Int8.ofInt 40).toInt32)).toInt = 40 from by decide) h60_3
      refine wk_aload_n xd_b2132531 rfl ?_
      refine wk_getR xf_f075c7a8 xd_eed0d767 ?_
      obtain ⟨wn5_, hCn5_, hVn5_, hNn5_⟩ := cs_next (cb_c hM) hs
      have hMn5_ := cb_of hM hVn5_ hNn5_
      have hVn5_a := cb_V_tr (cb_V_rf w) (cb_V_c hVn5_)
      refine wk_call (kd := 0) (i := 71) xd_ed3f8dc2 rfl (wk_cal (as := [.inr (.inr (some 2))]) (t := []) xl_9fd47991 rfl xn_568f4fa7 xc_1d38a579 rfl rfl xv_65cfb41b rfl) (cm_C_mono (by omega) hCn5_) ?_
      refine wk_aload_n xd_c44f5f2a rfl ?_
      refine wk_getR xf_fabc28a9 xd_267fbf15 ?_
      refine wk_aload_n xd_ca75c42c rfl ?_
      refine wk_getI xf_2d2091e5 xd_3f2fb84d ?_
      refine wk_iload_n xd_d78acc02 rfl ?_
      refine aw_iastore (i := l) xf_9a93de23 (show ((wn5_.1 116 2)).toInt = ((l : Int) : Int) from hMn5_.2.2) (by omega) (by omega) xd_a80bf751 ?_
      have hV6_ := cb_V_tr hVn5_a (cb_V_u1 (w := wn5_) (c := 118) (i := l) (x := (Int32.ofInt 0)) (by omega) (by omega))
      have hM7_ := cb_u (c := 118) (i := l) (x := (Int32.ofInt 0)) hMn5_ (by omega) (by omega)
      refine wk_iload_n xd_0799d4ee rfl ?_
      refine wk_if xd_960c9492 (t := 98) rfl (fun _ => ?_) (fun h => absurd (aw_eq_f (show ((Int32.ofInt 0)).toInt = 0 from by decide) hb_z h) (by omega))
      refine wk_aload_n xd_3d0cdb10 rfl ?_
      refine wk_getR xf_55e469a7 xd_bd62bcfb ?_
      refine wk_aload_n xd_0757d833 rfl ?_
      refine wk_getI xf_2d2091e5 xd_8daf4b18 ?_
      refine wk_iload_n xd_6068837d rfl ?_
      refine aw_iastore (i := l) xf_cc076ad5 (show (((cm_u1 wn5_ 118 l (Int32.ofInt 0)).1 116 2)).toInt = ((l : Int) : Int) from hMn5_.2.2) (by omega) (by omega) xd_6e8c59b6 ?_
      have hV9_ := cb_V_tr hV6_ (cb_V_u1 (w := (cm_u1 wn5_ 118 l (Int32.ofInt 0))) (c := 117) (i := l) (x := (w.1 2 8)) (by omega) (by omega))
      have hM10_ := cb_u (c := 117) (i := l) (x := (w.1 2 8)) hM7_ (by omega) (by omega)
      refine wk_aload_n xd_ea7848fc rfl ?_
      refine wk_getR xf_f256800b xd_2bbf77e0 ?_
      refine wk_aload_n xd_8672bd14 rfl ?_
      refine wk_getI xf_2d2091e5 xd_6ab2ed8f ?_
      refine wk_iload_n xd_e14de65a rfl ?_
      refine wk_bipush xd_ff993472 ?_
      refine wk_icmp xd_06d911f1 (t := 137) rfl (fun h => absurd (aw_ne_t (show ((w.1 2 8)).toInt = (9 : Int) from hk) (show (((Int8.ofInt 9).toInt32)).toInt = 9 from by decide) h) (by omega)) (fun _ => ?_)
      refine wk_aload_n xd_de6c143c rfl ?_
      refine wk_getR xf_f075c7a8 xd_0aa0c56f ?_
      refine wk_aload_n xd_de30b5af rfl ?_
      refine wk_getR xf_1b1a3ce4 xd_34ed6295 ?_
      refine wk_iconst xd_e058b7f0 ?_
      obtain ⟨xl, wl, hCl, hVl, hl⟩ := ss_take2 (z := (Int32.ofInt 2)) (by decide) (cb_c hM10_) (cb_V_R hV9_ hR)
      have hVla := cb_V_tr hV9_ (cb_V_c hVl)
      have hl9 : (wl.1 116 2).toInt = (l : Int) := by rw [(hVl 116 2 (by omega) (by omega)).1]; exact hM10_.2.2
      refine wk_call (kd := 0) (i := 77) xd_7d39b3e6 rfl (wk_cal (as := [.inr (.inr (some 2)), .inr (.inr (some 4)), .inl (Int32.ofInt 2)]) (t := [.inl ((cm_u1 (cm_u1 wn5_ 118 l (Int32.ofInt 0)) 117 l (w.1 2 8)).1 116 2), .inr (.inr (some 119))]) xl_8633db12 rfl xn_725a18eb xc_be714b02 rfl rfl xv_0f9d2d2e rfl) (cm_C_mono (by omega) hCl) ?_
      rcases hl with ⟨i9, el, hx, hi, hN⟩ | ⟨k9, q9, el, hx, hB⟩
      · have hMl := cb_of hM10_ hVl hN
        refine wk_goto xd_9b0f08af (t := 147) rfl ?_
        refine aw_iastore (i := l) xf_079c3f55 (show (((cm_u1 (cm_u1 wn5_ 118 l (Int32.ofInt 0)) 117 l (w.1 2 8)).1 116 2)).toInt = ((l : Int) : Int) from hMn5_.2.2) (by omega) (by omega) xd_322dcab6 ?_
        have hV12_ := cb_V_tr hVla (cb_V_u1 (w := wl) (c := 119) (i := l) (x := xl) (by omega) (by omega))
        have hM13_ := cb_u (c := 119) (i := l) (x := xl) hMl (by omega) (by omega)
        refine wk_aload_n xd_837ed6a3 rfl ?_
        refine wk_getR xf_f256800b xd_012be13e ?_
        refine wk_aload_n xd_ef74234b rfl ?_
        refine wk_getI xf_2d2091e5 xd_40267b51 ?_
        refine aw_iaload (i := l) xf_079c3f55 (show (((cm_u1 wl 119 l xl).1 116 2)).toInt = ((l : Int) : Int) from hMl.2.2) (by omega) (by omega) xd_ba2a208f ?_
        have hwt : (((cm_u1 wl 119 l xl).1 119 l)).toInt = (i9 : Int) := by rw [hs_u1_self]; exact hx
        refine wk_iconst xd_2d5568a4 ?_
        refine wk_icmp xd_03c2a110 (t := 165) rfl (fun h158_13 => ?_) (fun h158_13 => ?_)
        · have h158_13 := aw_eq_t (a := (i9 : Int)) (b := ((-1) : Int)) hwt (show ((Int32.ofInt (-1))).toInt = (-1) from by decide) h158_13
          refine wk_iconst xd_4a3e5817 ?_
          exfalso
          first
          | omega
          | have hlb := ps_look_b el
            omega
        · have h158_13 := aw_eq_f (a := (i9 : Int)) (b := ((-1) : Int)) hwt (show ((Int32.ofInt (-1))).toInt = (-1) from by decide) h158_13
          refine wk_iconst xd_2bffe2a7 ?_
          refine wk_goto xd_38adfc0a (t := 166) rfl ?_
          exact wk_ireturn xd_249a7329 xr_2c7dc002 wk_z1 ⟨_, _, rfl, hV12_, cb_P_y ((bk_l9 hw (by omega)).trans (bk_n_y el)) (show ((Int32.ofInt 1)).toInt = 1 from by decide) hM13_⟩
      · skip
        refine wk_goto xd_9b0f08af (t := 147) rfl ?_
        refine aw_iastore (i := l) xf_079c3f55 (show (((cm_u1 (cm_u1 wn5_ 118 l (Int32.ofInt 0)) 117 l (w.1 2 8)).1 116 2)).toInt = ((l : Int) : Int) from hMn5_.2.2) (by omega) (by omega) xd_322dcab6 ?_
        have hV15_ := cb_V_tr hVla (cb_V_u1 (w := wl) (c := 119) (i := l) (x := xl) (by omega) (by omega))
        have hB16_ := cs_B_u1 (c := 119) (i := l) (x := xl) hB (by omega)
        refine wk_aload_n xd_837ed6a3 rfl ?_
        refine wk_getR xf_f256800b xd_012be13e ?_
        refine wk_aload_n xd_ef74234b rfl ?_
        refine wk_getI xf_2d2091e5 xd_40267b51 ?_
        refine aw_iaload (i := l) xf_079c3f55 (show (((cm_u1 wl 119 l xl).1 116 2)).toInt = ((l : Int) : Int) from hl9) (by omega) (by omega) xd_ba2a208f ?_
        have hwt : (((cm_u1 wl 119 l xl).1 119 l)).toInt = ((-1) : Int) := by rw [hs_u1_self]; exact hx
        refine wk_iconst xd_2d5568a4 ?_
        refine wk_icmp xd_03c2a110 (t := 165) rfl (fun _ => ?_) (fun h => absurd (aw_eq_f hwt (show ((Int32.ofInt (-1))).toInt = (-1) from by decide) h) (by omega))
        refine wk_iconst xd_4a3e5817 ?_
        exact wk_ireturn xd_249a7329 xr_2c7dc002 wk_z0 ⟨_, _, rfl, hV15_, cb_P_e ((bk_l9 hw (by omega)).trans (bk_n_e el)) (show ((Int32.ofInt 0)).toInt = 0 from by decide) hB16_⟩
    · have h60_3 := aw_lt_f (a := ((l : Int) : Int)) (b := (40 : Int)) (show ((w.1 116 2)).toInt = ((l : Int) : Int) from hM.2.2) (show (((Int8.ofInt 40).toInt32)).toInt = 40 from by decide) h60_3
      refine wk_aload_n xd_a845aac2 rfl ?_
      refine wk_getR xf_f075c7a8 xd_c79d8d58 ?_
      refine wk_iconst xd_73659c44 ?_
      obtain ⟨wr18_, hCr18_, hVr18_, hBr18_, -⟩ := cs_ref (k := (Int32.ofInt 4)) (c := 4) (cb_c hM) (by decide) (by decide)
      have hVr18_a := cb_V_tr (cb_V_rf w) (cb_V_c hVr18_)
      refine wk_call (kd := 0) (i := 68) xd_94a080f6 rfl (wk_cal (as := [.inr (.inr (some 2)), .inl (Int32.ofInt 4)]) (t := []) xl_08bc40ac rfl xn_b5464d7d xc_49a83f99 rfl rfl xv_780065b9 rfl) (cm_C_mono (by omega) hCr18_) ?_
      exact wk_ireturn xd_69849678 xr_2c7dc002 wk_z0 ⟨_, _, rfl, hVr18_a, cb_P_e (bk_l9f hw (by omega)) (show ((Int32.ofInt 0)).toInt = 0 from by decide) hBr18_⟩
  obtain ⟨oo, hC, x, w', rfl, a⟩ := h9
  exact ⟨x, w', hC, a⟩
theorem bl_10 {T : Nat → Int} {n m : Nat} {h : Nat → Int} {nm : Nat → Nat} {w : cm_W} {p l : Nat} (hR : vl_R w 4 h nm) (hM : cb_M w T n m p l) (h9 : ¬ ps_wd (tx_tk T n m p) 9) (hw : ps_wd (tx_tk T n m p) 10) (hk : (w.1 2 8).toInt = 10) : ∃ x w', cm_C 6 171 [.inr (.inr (some 116))] w (some (.inl x), w') ∧ cb_V w w' ∧ cb_P T n m l (bk_line T n m h nm l p) x w' := by
  have hs : 1 ≤ (tx_tk T n m p).1 ∧ (tx_tk T n m p).1 ≤ 3 := by have := hw.1; omega
  have h9 : ∃ oo, cm_C (5 + 1) 171 [.inr (.inr (some 116))] w oo ∧ (fun oo : cm_O => ∃ x w', oo = (some (.inl x), w') ∧ cb_V w w' ∧ cb_P T n m l (bk_line T n m h nm l p) x w') oo := by
    refine wk_entry (by rw [xm_6cc5af68]; exact Nat.le_of_ble_eq_true rfl) ?_
    rw [show cm_ent 171 [.inr (.inr (some 116))] = [some (.inr (.inr (some 116))), none, none, none] from by unfold cm_ent; rw [xm_6cc5af68]; rfl]
    refine wk_aload_n xd_0d330f9b rfl ?_
    refine wk_getR xf_f075c7a8 xd_6183f5f2 ?_
    refine wk_getI xf_260261e2 xd_a79831c4 ?_
    refine wk_istore_n xd_cbd96f52 (by rw [xm_6cc5af68]; rfl) rfl ?_
    refine wk_iload_n xd_6ae9b660 rfl ?_
    refine wk_bipush xd_e571e428 ?_
    refine wk_icmp xd_14898242 (t := 24) rfl (fun h => absurd (aw_eq_t (show ((w.1 2 8)).toInt = (10 : Int) from hk) (show (((Int8.ofInt 9).toInt32)).toInt = 9 from by decide) h) (by omega)) (fun _ => ?_)
    refine wk_iload_n xd_8887ffc6 rfl ?_
    refine wk_bipush xd_f28f1c8b ?_
    refine wk_icmp xd_2940d331 (t := 24) rfl (fun _ => ?_) (fun h => absurd (aw_eq_f (show ((w.1 2 8)).toInt = (10 : Int) from hk) (show (((Int8.ofInt 10).toInt32)).toInt = 10 from by decide) h) (by omega))
    refine wk_iconst xd_bfc13657 ?_
    refine wk_istore_n xd_e4f3a5ab (by rw [xm_6cc5af68]; rfl) rfl ?_
    refine wk_iload_n xd_7aafffd7 rfl ?_
    refine wk_if xd_05771894 (t := 45) rfl (fun _ => ?_) (fun h => absurd (aw_eq_f (show ((Int32.ofInt 0)).toInt = 0 from by decide) hb_z h) (by omega))
    refine wk_iconst xd_452320ed ?_
    refine wk_istore_n xd_ea564995 (by rw [xm_6cc5af68]; rfl) rfl ?_
    refine wk_iload_n xd_6c816ee3 rfl ?_
    refine wk_iconst xd_01ea836d ?_
    refine wk_icmp xd_e4c2a6fe (t := 54) rfl (fun _ => ?_) (fun h => absurd (aw_ne_f (show ((Int32.ofInt 0)).toInt = 0 from by decide) (show ((Int32.ofInt (-1))).toInt = (-1) from by decide) h) (by omega))
    refine wk_aload_n xd_86e29b44 rfl ?_
    refine wk_getI xf_2d2091e5 xd_020435b6 ?_
    refine wk_bipush xd_50d21b06 ?_
    refine wk_icmp xd_3e79e76d (t := 72) rfl (fun h60_4 => ?_) (fun h60_4 => ?_)
    · have h60_4 := aw_lt_t (a := ((l : Int) : Int)) (b := (40 : Int)) (show ((w.1 116 2)).toInt = ((l : Int) : Int) from hM.2.2) (show (((Int8.ofInt 40).toInt32)).toInt = 40 from by decide) h60_4
      refine wk_aload_n xd_b2132531 rfl ?_
      refine wk_getR xf_f075c7a8 xd_eed0d767 ?_
      obtain ⟨wn6_, hCn6_, hVn6_, hNn6_⟩ := cs_next (cb_c hM) hs
      have hMn6_ := cb_of hM hVn6_ hNn6_
      have hVn6_a := cb_V_tr (cb_V_rf w) (cb_V_c hVn6_)
      refine wk_call (kd := 0) (i := 71) xd_ed3f8dc2 rfl (wk_cal (as := [.inr (.inr (some 2))]) (t := []) xl_9fd47991 rfl xn_568f4fa7 xc_1d38a579 rfl rfl xv_65cfb41b rfl) (cm_C_mono (by omega) hCn6_) ?_
      refine wk_aload_n xd_c44f5f2a rfl ?_
      refine wk_getR xf_fabc28a9 xd_267fbf15 ?_
      refine wk_aload_n xd_ca75c42c rfl ?_
      refine wk_getI xf_2d2091e5 xd_3f2fb84d ?_
      refine wk_iload_n xd_d78acc02 rfl ?_
      refine aw_iastore (i := l) xf_9a93de23 (show ((wn6_.1 116 2)).toInt = ((l : Int) : Int) from hMn6_.2.2) (by omega) (by omega) xd_a80bf751 ?_
      have hV7_ := cb_V_tr hVn6_a (cb_V_u1 (w := wn6_) (c := 118) (i := l) (x := (Int32.ofInt 0)) (by omega) (by omega))
      have hM8_ := cb_u (c := 118) (i := l) (x := (Int32.ofInt 0)) hMn6_ (by omega) (by omega)
      refine wk_iload_n xd_0799d4ee rfl ?_
      refine wk_if xd_960c9492 (t := 98) rfl (fun _ => ?_) (fun h => absurd (aw_eq_f (show ((Int32.ofInt 0)).toInt = 0 from by decide) hb_z h) (by omega))
      refine wk_aload_n xd_3d0cdb10 rfl ?_
      refine wk_getR xf_55e469a7 xd_bd62bcfb ?_
      refine wk_aload_n xd_0757d833 rfl ?_
      refine wk_getI xf_2d2091e5 xd_8daf4b18 ?_
      refine wk_iload_n xd_6068837d rfl ?_
      refine aw_iastore (i := l) xf_cc076ad5 (show (((cm_u1 wn6_ 118 l (Int32.ofInt 0)).1 116 2)).toInt = ((l : Int) : Int) from hMn6_.2.2) (by omega) (by omega) xd_6e8c59b6 ?_
      have hV10_ := cb_V_tr hV7_ (cb_V_u1 (w := (cm_u1 wn6_ 118 l (Int32.ofInt 0))) (c := 117) (i := l) (x := (w.1 2 8)) (by omega) (by omega))
      have hM11_ := cb_u (c := 117) (i := l) (x := (w.1 2 8)) hM8_ (by omega) (by omega)
      refine wk_aload_n xd_ea7848fc rfl ?_
      refine wk_getR xf_f256800b xd_2bbf77e0 ?_
      refine wk_aload_n xd_8672bd14 rfl ?_
      refine wk_getI xf_2d2091e5 xd_6ab2ed8f ?_
      refine wk_iload_n xd_e14de65a rfl ?_
      refine wk_bipush xd_ff993472 ?_
      refine wk_icmp xd_06d911f1 (t := 137) rfl (fun _ => ?_) (fun h => absurd (aw_ne_f (show ((w.1 2 8)).toInt = (10 : Int) from hk) (show (((Int8.ofInt 9).toInt32)).toInt = 9 from by decide) h) (by omega))
      refine wk_aload_n xd_c4663a5c rfl ?_
      refine wk_getR xf_f075c7a8 xd_f45b461c ?_
      refine wk_iconst xd_c669314e ?_
      refine wk_bipush xd_f54c8590 ?_
      obtain ⟨xt, wt, hCt, hVt, hRt⟩ := cs_num (a := (Int32.ofInt 1)) (b := ((Int8.ofInt 60).toInt32)) (lo := 1) (hi := 60) (cb_c hM11_) (by decide) (by decide)
      have hVta := cb_V_tr hV10_ (cb_V_c hVt)
      have hl9 : (wt.1 116 2).toInt = (l : Int) := by rw [(hVt 116 2 (by omega) (by omega)).1]; exact hM11_.2.2
      refine wk_call (kd := 0) (i := 80) xd_db1b283c rfl (wk_cal (as := [.inr (.inr (some 2)), .inl (Int32.ofInt 1), .inl ((Int8.ofInt 60).toInt32)]) (t := [.inl ((cm_u1 (cm_u1 wn6_ 118 l (Int32.ofInt 0)) 117 l (w.1 2 8)).1 116 2), .inr (.inr (some 119))]) xl_7d15b5a1 rfl xn_4f3a315b xc_18628866 rfl rfl xv_017ac5ff rfl) (cm_C_mono (by omega) hCt) ?_
      rcases hRt with ⟨et, hxt, hNt⟩ | ⟨et, hxt, hBt⟩
      · have hMt := cb_of hM11_ hVt hNt
        have hnn : 0 ≤ (tx_tk T n m (tx_tk T n m p).2.2.1).2.2.2.1 := by
          unfold tx_num at et
          split at et
          · split at et
            · omega
            · omega
          · omega
        refine aw_iastore (i := l) xf_079c3f55 (show (((cm_u1 (cm_u1 wn6_ 118 l (Int32.ofInt 0)) 117 l (w.1 2 8)).1 116 2)).toInt = ((l : Int) : Int) from hMn6_.2.2) (by omega) (by omega) xd_322dcab6 ?_
        have hV13_ := cb_V_tr hVta (cb_V_u1 (w := wt) (c := 119) (i := l) (x := xt) (by omega) (by omega))
        have hM14_ := cb_u (c := 119) (i := l) (x := xt) hMt (by omega) (by omega)
        refine wk_aload_n xd_837ed6a3 rfl ?_
        refine wk_getR xf_f256800b xd_012be13e ?_
        refine wk_aload_n xd_ef74234b rfl ?_
        refine wk_getI xf_2d2091e5 xd_40267b51 ?_
        refine aw_iaload (i := l) xf_079c3f55 (show (((cm_u1 wt 119 l xt).1 116 2)).toInt = ((l : Int) : Int) from hMt.2.2) (by omega) (by omega) xd_ba2a208f ?_
        have hwt : (((cm_u1 wt 119 l xt).1 119 l)).toInt = ((tx_tk T n m (tx_tk T n m p).2.2.1).2.2.2.1 : Int) := by rw [hs_u1_self]; exact hxt
        refine wk_iconst xd_2d5568a4 ?_
        refine wk_icmp xd_03c2a110 (t := 165) rfl (fun h158_14 => ?_) (fun h158_14 => ?_)
        · have h158_14 := aw_eq_t (a := ((tx_tk T n m (tx_tk T n m p).2.2.1).2.2.2.1 : Int)) (b := ((-1) : Int)) hwt (show ((Int32.ofInt (-1))).toInt = (-1) from by decide) h158_14
          refine wk_iconst xd_4a3e5817 ?_
          exfalso
          first
          | omega
          | have hlb := ps_look_b el
            omega
        · have h158_14 := aw_eq_f (a := ((tx_tk T n m (tx_tk T n m p).2.2.1).2.2.2.1 : Int)) (b := ((-1) : Int)) hwt (show ((Int32.ofInt (-1))).toInt = (-1) from by decide) h158_14
          refine wk_iconst xd_2bffe2a7 ?_
          refine wk_goto xd_38adfc0a (t := 166) rfl ?_
          exact wk_ireturn xd_249a7329 xr_2c7dc002 wk_z1 ⟨_, _, rfl, hV13_, cb_P_y (bk_l10y h9 hw (by omega) et) (show ((Int32.ofInt 1)).toInt = 1 from by decide) hM14_⟩
      · skip
        refine aw_iastore (i := l) xf_079c3f55 (show (((cm_u1 (cm_u1 wn6_ 118 l (Int32.ofInt 0)) 117 l (w.1 2 8)).1 116 2)).toInt = ((l : Int) : Int) from hMn6_.2.2) (by omega) (by omega) xd_322dcab6 ?_
        have hV16_ := cb_V_tr hVta (cb_V_u1 (w := wt) (c := 119) (i := l) (x := xt) (by omega) (by omega))
        have hB17_ := cs_B_u1 (c := 119) (i := l) (x := xt) hBt (by omega)
        refine wk_aload_n xd_837ed6a3 rfl ?_
        refine wk_getR xf_f256800b xd_012be13e ?_
        refine wk_aload_n xd_ef74234b rfl ?_
        refine wk_getI xf_2d2091e5 xd_40267b51 ?_
        refine aw_iaload (i := l) xf_079c3f55 (show (((cm_u1 wt 119 l xt).1 116 2)).toInt = ((l : Int) : Int) from hl9) (by omega) (by omega) xd_ba2a208f ?_
        have hwt : (((cm_u1 wt 119 l xt).1 119 l)).toInt = ((-1) : Int) := by rw [hs_u1_self]; exact hxt
        refine wk_iconst xd_2d5568a4 ?_
        refine wk_icmp xd_03c2a110 (t := 165) rfl (fun _ => ?_) (fun h => absurd (aw_eq_f hwt (show ((Int32.ofInt (-1))).toInt = (-1) from by decide) h) (by omega))
        refine wk_iconst xd_4a3e5817 ?_
        exact wk_ireturn xd_249a7329 xr_2c7dc002 wk_z0 ⟨_, _, rfl, hV16_, cb_P_e (bk_l10n h9 hw (by omega) et) (show ((Int32.ofInt 0)).toInt = 0 from by decide) hB17_⟩
    · have h60_4 := aw_lt_f (a := ((l : Int) : Int)) (b := (40 : Int)) (show ((w.1 116 2)).toInt = ((l : Int) : Int) from hM.2.2) (show (((Int8.ofInt 40).toInt32)).toInt = 40 from by decide) h60_4
      refine wk_aload_n xd_a845aac2 rfl ?_
      refine wk_getR xf_f075c7a8 xd_c79d8d58 ?_
      refine wk_iconst xd_73659c44 ?_
      obtain ⟨wr19_, hCr19_, hVr19_, hBr19_, -⟩ := cs_ref (k := (Int32.ofInt 4)) (c := 4) (cb_c hM) (by decide) (by decide)
      have hVr19_a := cb_V_tr (cb_V_rf w) (cb_V_c hVr19_)
      refine wk_call (kd := 0) (i := 68) xd_94a080f6 rfl (wk_cal (as := [.inr (.inr (some 2)), .inl (Int32.ofInt 4)]) (t := []) xl_08bc40ac rfl xn_b5464d7d xc_49a83f99 rfl rfl xv_780065b9 rfl) (cm_C_mono (by omega) hCr19_) ?_
      exact wk_ireturn xd_69849678 xr_2c7dc002 wk_z0 ⟨_, _, rfl, hVr19_a, cb_P_e (bk_l10f h9 hw (by omega)) (show ((Int32.ofInt 0)).toInt = 0 from by decide) hBr19_⟩
  obtain ⟨oo, hC, x, w', rfl, a⟩ := h9
  exact ⟨x, w', hC, a⟩
theorem bl_p {T : Nat → Int} {n m : Nat} {h : Nat → Int} {nm : Nat → Nat} {w : cm_W} {p l : Nat} (hR : vl_R w 4 h nm) (hM : cb_M w T n m p l) (h9 : ¬ ps_wd (tx_tk T n m p) 9) (h10 : ¬ ps_wd (tx_tk T n m p) 10) (hk : (w.1 2 8).toInt ≠ 9 ∧ (w.1 2 8).toInt ≠ 10) : ∃ x w', cm_C 6 171 [.inr (.inr (some 116))] w (some (.inl x), w') ∧ cb_V w w' ∧ cb_P T n m l (bk_line T n m h nm l p) x w' := by
  have h9 : ∃ oo, cm_C (5 + 1) 171 [.inr (.inr (some 116))] w oo ∧ (fun oo : cm_O => ∃ x w', oo = (some (.inl x), w') ∧ cb_V w w' ∧ cb_P T n m l (bk_line T n m h nm l p) x w') oo := by
    refine wk_entry (by rw [xm_6cc5af68]; exact Nat.le_of_ble_eq_true rfl) ?_
    rw [show cm_ent 171 [.inr (.inr (some 116))] = [some (.inr (.inr (some 116))), none, none, none] from by unfold cm_ent; rw [xm_6cc5af68]; rfl]
    refine wk_aload_n xd_0d330f9b rfl ?_
    refine wk_getR xf_f075c7a8 xd_6183f5f2 ?_
    refine wk_getI xf_260261e2 xd_a79831c4 ?_
    refine wk_istore_n xd_cbd96f52 (by rw [xm_6cc5af68]; rfl) rfl ?_
    refine wk_iload_n xd_6ae9b660 rfl ?_
    refine wk_bipush xd_e571e428 ?_
    refine wk_icmp xd_14898242 (t := 24) rfl (fun h11_0 => ?_) (fun h11_0 => ?_)
    · have h11_0 := aw_eq_t (a := ((w.1 2 8).toInt : Int)) (b := (9 : Int)) rfl (show (((Int8.ofInt 9).toInt32)).toInt = 9 from by decide) h11_0
      exfalso
      omega
    · have h11_0 := aw_eq_f (a := ((w.1 2 8).toInt : Int)) (b := (9 : Int)) rfl (show (((Int8.ofInt 9).toInt32)).toInt = 9 from by decide) h11_0
      refine wk_iload_n xd_8887ffc6 rfl ?_
      refine wk_bipush xd_f28f1c8b ?_
      refine wk_icmp xd_2940d331 (t := 24) rfl (fun h17_1 => ?_) (fun h17_1 => ?_)
      · have h17_1 := aw_eq_t (a := ((w.1 2 8).toInt : Int)) (b := (10 : Int)) rfl (show (((Int8.ofInt 10).toInt32)).toInt = 10 from by decide) h17_1
        exfalso
        omega
      · have h17_1 := aw_eq_f (a := ((w.1 2 8).toInt : Int)) (b := (10 : Int)) rfl (show (((Int8.ofInt 10).toInt32)).toInt = 10 from by decide) h17_1
        refine wk_iconst xd_de008ce7 ?_
        refine wk_goto xd_57e79916 (t := 25) rfl ?_
        refine wk_istore_n xd_e4f3a5ab (by rw [xm_6cc5af68]; rfl) rfl ?_
        refine wk_iload_n xd_7aafffd7 rfl ?_
        refine wk_if xd_05771894 (t := 45) rfl (fun h => absurd (aw_eq_t (show ((Int32.ofInt 1)).toInt = 1 from by decide) hb_z h) (by omega)) (fun _ => ?_)
        refine wk_aload_n xd_36836887 rfl ?_
        refine wk_getR xf_f075c7a8 xd_542267e4 ?_
        refine wk_aload_n xd_36dfc914 rfl ?_
        refine wk_getR xf_1b1a3ce4 xd_6a6fc01e ?_
        refine wk_iconst xd_c1506983 ?_
        obtain ⟨xk, wk, hCk, hVk, hk9⟩ := cs_look4_0 (z := (Int32.ofInt 0)) (by decide) (cb_c hM) hR
        refine wk_call (kd := 0) (i := 64) xd_5848c56a rfl (wk_cal (as := [.inr (.inr (some 2)), .inr (.inr (some 4)), .inl (Int32.ofInt 0)]) (t := []) xl_9ece86b4 rfl xn_cd6aa68a xc_ec32c43f rfl rfl xv_5ef21940 rfl) (cm_C_mono (by omega) hCk) ?_
        rcases hk9 with ⟨i9, el, hx, rfl⟩ | ⟨k9, q9, el, hx, hB, -⟩
        · have hlb := ps_look_b el
          refine wk_goto xd_0e73d11a (t := 46) rfl ?_
          refine wk_istore_n xd_ea564995 (by rw [xm_6cc5af68]; rfl) rfl ?_
          refine wk_iload_n xd_6c816ee3 rfl ?_
          refine wk_iconst xd_01ea836d ?_
          refine wk_icmp xd_e4c2a6fe (t := 54) rfl (fun h49_3 => ?_) (fun h49_3 => ?_)
          · have h49_3 := aw_ne_t (a := (i9 : Int)) (b := ((-1) : Int)) hx (show ((Int32.ofInt (-1))).toInt = (-1) from by decide) h49_3
            refine wk_aload_n xd_86e29b44 rfl ?_
            refine wk_getI xf_2d2091e5 xd_020435b6 ?_
            refine wk_bipush xd_50d21b06 ?_
            refine wk_icmp xd_3e79e76d (t := 72) rfl (fun h60_4 => ?_) (fun h60_4 => ?_)
            · have h60_4 := aw_lt_t (a := ((l : Int) : Int)) (b := (40 : Int)) (show ((wk.1 116 2)).toInt = ((l : Int) : Int) from hM.2.2) (show (((Int8.ofInt 40).toInt32)).toInt = 40 from by decide) h60_4
              refine wk_aload_n xd_b2132531 rfl ?_
              refine wk_getR xf_f075c7a8 xd_eed0d767 ?_
              obtain ⟨wn6_, hCn6_, hVn6_, hNn6_⟩ := cs_next (cb_c hM) hlb.2.2
              have hMn6_ := cb_of hM hVn6_ hNn6_
              have hVn6_a := cb_V_tr (cb_V_rf wk) (cb_V_c hVn6_)
              refine wk_call (kd := 0) (i := 71) xd_ed3f8dc2 rfl (wk_cal (as := [.inr (.inr (some 2))]) (t := []) xl_9fd47991 rfl xn_568f4fa7 xc_1d38a579 rfl rfl xv_65cfb41b rfl) (cm_C_mono (by omega) hCn6_) ?_
              refine wk_aload_n xd_c44f5f2a rfl ?_
              refine wk_getR xf_fabc28a9 xd_267fbf15 ?_
              refine wk_aload_n xd_ca75c42c rfl ?_
              refine wk_getI xf_2d2091e5 xd_3f2fb84d ?_
              refine wk_iload_n xd_d78acc02 rfl ?_
              refine aw_iastore (i := l) xf_9a93de23 (show ((wn6_.1 116 2)).toInt = ((l : Int) : Int) from hMn6_.2.2) (by omega) (by omega) xd_a80bf751 ?_
              have hV7_ := cb_V_tr hVn6_a (cb_V_u1 (w := wn6_) (c := 118) (i := l) (x := xk) (by omega) (by omega))
              have hM8_ := cb_u (c := 118) (i := l) (x := xk) hMn6_ (by omega) (by omega)
              refine wk_iload_n xd_0799d4ee rfl ?_
              refine wk_if xd_960c9492 (t := 98) rfl (fun h => absurd (aw_eq_t (show ((Int32.ofInt 1)).toInt = 1 from by decide) hb_z h) (by omega)) (fun _ => ?_)
              refine wk_aload_n xd_4b50a10b rfl ?_
              obtain ⟨xa, wa, hCa, hVa, hPa⟩ := ba_ok (cb_V_R hV7_ hR) hM8_ (by omega)
              have hVaa := cb_V_tr hV7_ hVa
              refine wk_call (kd := 0) (i := 74) xd_0c71f0cc rfl (wk_cal (as := [.inr (.inr (some 116))]) (t := []) xl_bb4a93da rfl xn_5d7280d3 xc_9cfbfaf9 rfl rfl xv_cef308a9 rfl) (cm_C_mono (by omega) hCa) ?_
              rcases cb_P_c hPa with ⟨k9, q9, er, hxa, hBa⟩ | ⟨p9, er, hxa, hMa⟩
              · skip
                exact wk_ireturn xd_540bef3e xr_2c7dc002 (aw_bit (by have := hxa; omega) (by have := hxa; omega)) ⟨_, _, rfl, hVaa, cb_P_e ((bk_lpy h9 h10 el (by omega)).trans er) hxa hBa⟩
              · skip
                exact wk_ireturn xd_540bef3e xr_2c7dc002 (aw_bit (by have := hxa; omega) (by have := hxa; omega)) ⟨_, _, rfl, hVaa, cb_P_y ((bk_lpy h9 h10 el (by omega)).trans er) hxa hMa⟩
            · have h60_4 := aw_lt_f (a := ((l : Int) : Int)) (b := (40 : Int)) (show ((wk.1 116 2)).toInt = ((l : Int) : Int) from hM.2.2) (show (((Int8.ofInt 40).toInt32)).toInt = 40 from by decide) h60_4
              refine wk_aload_n xd_a845aac2 rfl ?_
              refine wk_getR xf_f075c7a8 xd_c79d8d58 ?_
              refine wk_iconst xd_73659c44 ?_
              obtain ⟨wr10_, hCr10_, hVr10_, hBr10_, -⟩ := cs_ref (k := (Int32.ofInt 4)) (c := 4) (cb_c hM) (by decide) (by decide)
              have hVr10_a := cb_V_tr (cb_V_rf wk) (cb_V_c hVr10_)
              refine wk_call (kd := 0) (i := 68) xd_94a080f6 rfl (wk_cal (as := [.inr (.inr (some 2)), .inl (Int32.ofInt 4)]) (t := []) xl_08bc40ac rfl xn_b5464d7d xc_49a83f99 rfl rfl xv_780065b9 rfl) (cm_C_mono (by omega) hCr10_) ?_
              exact wk_ireturn xd_69849678 xr_2c7dc002 wk_z0 ⟨_, _, rfl, hVr10_a, cb_P_e (bk_lpf h9 h10 el (by omega)) (show ((Int32.ofInt 0)).toInt = 0 from by decide) hBr10_⟩
          · have h49_3 := aw_ne_f (a := (i9 : Int)) (b := ((-1) : Int)) hx (show ((Int32.ofInt (-1))).toInt = (-1) from by decide) h49_3
            refine wk_iconst xd_bb89f479 ?_
            exfalso
            first
            | omega
            | have hlb := ps_look_b el
              omega
        · skip
          refine wk_goto xd_0e73d11a (t := 46) rfl ?_
          refine wk_istore_n xd_ea564995 (by rw [xm_6cc5af68]; rfl) rfl ?_
          refine wk_iload_n xd_6c816ee3 rfl ?_
          refine wk_iconst xd_01ea836d ?_
          refine wk_icmp xd_e4c2a6fe (t := 54) rfl (fun h => absurd (aw_ne_t hx (show ((Int32.ofInt (-1))).toInt = (-1) from by decide) h) (by omega)) (fun _ => ?_)
          refine wk_iconst xd_bb89f479 ?_
          exact wk_ireturn xd_a3105e85 xr_2c7dc002 wk_z0 ⟨_, _, rfl, (cb_V_c hVk), cb_P_e (bk_lpe h9 h10 el) (show ((Int32.ofInt 0)).toInt = 0 from by decide) hB⟩
  obtain ⟨oo, hC, x, w', rfl, a⟩ := h9
  exact ⟨x, w', hC, a⟩
theorem bl_ok {T : Nat → Int} {n m : Nat} {h : Nat → Int} {nm : Nat → Nat} {w : cm_W} {p l : Nat} (hR : vl_R w 4 h nm) (hM : cb_M w T n m p l) : ∃ x w', cm_C 6 171 [.inr (.inr (some 116))] w (some (.inl x), w') ∧ cb_V w w' ∧ cb_P T n m l (bk_line T n m h nm l p) x w' := by
  rcases ss_kw hM.1.2.1 9 (by omega) with ⟨a, b⟩ | ⟨a9, b9⟩
  · exact bl_9 hR hM b a
  · rcases ss_kw hM.1.2.1 10 (by omega) with ⟨a, b⟩ | ⟨a10, b10⟩
    · exact bl_10 hR hM b9 b a
    · exact bl_p hR hM b9 b10 ⟨a9, a10⟩
/-- no 41st line stands -/
theorem bk_l40 {T : Nat → Int} {n m l p p' : Nat} {h : Nat → Int} {nm : Nat → Nat} (h1 : bk_line T n m h nm l p = .inr p') : l < 40 := by
  by_cases h2 : 40 ≤ l
  · exfalso
    by_cases h9 : ps_wd (tx_tk T n m p) 9
    · rw [bk_l9f h9 h2] at h1
      cases h1
    · by_cases h10 : ps_wd (tx_tk T n m p) 10
      · rw [bk_l10f h9 h10 h2] at h1
        cases h1
      · cases e9 : ps_look T n m nm 0 (h 0).toNat p with
        | inl e =>
          rw [bk_lpe h9 h10 e9] at h1
          cases h1
        | inr i =>
          rw [bk_lpf h9 h10 e9 h2] at h1
          cases h1
  · omega
theorem bal_lp {T : Nat → Int} {n m : Nat} {h : Nat → Int} {nm : Nat → Nat} {w1 : cm_W} (hR1 : vl_R w1 4 h nm) (Q : cm_O → Prop) : ∀ (f l p : Nat) (z : Int32) (w : cm_W), (∀ x w', cb_V w1 w' → ((∃ v, bk_text T n m h nm f l p = .inr v ∧ x.toInt = 1 ∧ (w'.1 2 11).toInt = 0) ∨ (∃ k q, bk_text T n m h nm f l p = .inl (k, q) ∧ x.toInt = 0 ∧ cs_B w' k q)) → Q (some (.inl x), w')) → f + l = 41 → z.toInt = (l : Int) → l ≤ 40 → cb_V w1 w → vl_R w 4 h nm → cb_M w T n m p l → cm_X (cm_C 6) 50 7 [some (.inr (.inr (some 116))), some (.inl z)] [] w Q := by
  intro f
  induction f with
  | zero =>
    intro l p z w hk hfl hz hl hV hR hM
    omega
  | succ f ih =>
    intro l p z w hk hfl hz hl hV hR hM
    refine wk_iload_n xd_2b8ffb9a rfl ?_
    refine wk_bipush xd_ec39b838 ?_
    refine wk_icmp xd_b8ae0f0a (t := 68) rfl (fun h10_0 => ?_) (fun h10_0 => ?_)
    · have h10_0 := aw_gt_t (a := ((l : Int) : Int)) (b := (40 : Int)) hz (show (((Int8.ofInt 40).toInt32)).toInt = 40 from by decide) h10_0
      exfalso
      omega
    · have h10_0 := aw_gt_f (a := ((l : Int) : Int)) (b := (40 : Int)) hz (show (((Int8.ofInt 40).toInt32)).toInt = 40 from by decide) h10_0
      refine wk_aload_n xd_2761eb33 rfl ?_
      refine wk_getR xf_0c298976 xd_cbe1a386 ?_
      refine wk_getI xf_82cfb342 xd_de690cdd ?_
      refine wk_if xd_6772871e (t := 31) rfl (fun h20_1 => ?_) (fun h20_1 => ?_)
      · have h20_1 := aw_ne_t (a := ((w.1 2 5).toInt : Int)) (b := (0 : Int)) rfl hb_z h20_1
        have h0 : (tx_tk T n m p).1 ≠ 0 := (rd_C_end hM.1.2.1).elim (fun z => absurd z.2.1 (by omega)) (fun z => z.1)
        refine wk_aload_n xd_13ccf4d5 rfl ?_
        obtain ⟨xa, wa, hCa, hVa, hPa⟩ := bl_ok hR hM
        have hVaa := cb_V_tr hV hVa
        refine wk_call (kd := 0) (i := 54) xd_0dcad1e7 rfl (wk_cal (as := [.inr (.inr (some 116))]) (t := []) xl_2935d42a rfl xn_6012a963 xc_3ae8399d rfl rfl xv_f801985a rfl) (cm_C_mono (by omega) hCa) ?_
        rcases cb_P_c hPa with ⟨k9, q9, er, hxa, hBa⟩ | ⟨p9, er, hxa, hMa⟩
        · skip
          refine wk_if xd_e62e0dcb (t := 50) rfl (fun _ => ?_) (fun h => absurd (aw_eq_f hxa hb_z h) (by omega))
          refine wk_iconst xd_a2bfab8b ?_
          exact wk_ireturn xd_f979dd13 xr_00814a6a wk_z0 (hk _ _ hVaa (.inr ⟨_, _, bk_te h0 er, by decide, hBa⟩))
        · have hl40 := bk_l40 er
          refine wk_if xd_e62e0dcb (t := 50) rfl (fun h => absurd (aw_eq_t hxa hb_z h) (by omega)) (fun _ => ?_)
          refine wk_aload_n xd_88065d27 rfl ?_
          refine wk_getR xf_0c298976 xd_ac96a1ab ?_
          refine wk_bipush xd_44a829bc ?_
          obtain ⟨xs, ws, hCs, hs⟩ := ts_ok (k := ((Int8.ofInt 59).toInt32)) (c := 59) (by decide) hMa.1 hMa.2.1
          refine wk_call (kd := 0) (i := 57) xd_eb9f7b30 rfl (wk_cal (as := [.inr (.inr (some 2)), .inl ((Int8.ofInt 59).toInt32)]) (t := []) xl_8479a485 rfl xn_fe71b019 xc_c4c1f567 rfl rfl xv_89786e0c rfl) (cm_C_mono (by omega) hCs) ?_
          rcases hs with ⟨hs1, hs2, hxs, hLs, hSs⟩ | ⟨hs1, hxs, hBs⟩
          · have hMs : cb_M ws T n m (tx_tk T n m p9).2.2.1 l := ⟨hLs, by rw [(hSs 2 11 (by omega)).1]; exact hMa.2.1, by rw [(hSs 116 2 (by omega)).1]; exact hMa.2.2⟩
            have hVs := cb_V_tr hVaa (cb_V_c (cs_V_E (rd_E_S hSs)))
            refine wk_if xd_0659ec7b (t := 52) rfl (fun _ => ?_) (fun h => absurd (aw_ne_f hxs hb_z h) (by omega))
            refine wk_aload_n xd_d5149fb8 rfl ?_
            refine wk_dup_r xd_e0dc8175 ?_
            refine wk_getI xf_7558e797 xd_7330f040 ?_
            refine wk_iconst xd_fa06bc7b ?_
            refine aw_iadd (a := ((l : Int) : Int)) (b := (1 : Int)) (e := ((l : Int) + 1 : Int)) xd_60914d12 (show ((ws.1 116 2)).toInt = ((l : Int) : Int) from hMs.2.2) (show ((Int32.ofInt 1)).toInt = 1 from by decide) (by omega) (by omega) (by omega) (fun v6_ p6_ => ?_)
            refine wk_putI xf_0293f975 (fun ci => wk_fitI ci) xd_b8dc153b ?_
            have hV7_ := cb_V_tr hVs (cb_V_u1 (w := ws) (c := 116) (i := 2) (x := v6_) (by omega) (by omega))
            have hM8_ : cb_M (cm_u1 ws 116 2 v6_) T n m (tx_tk T n m p9).2.2.1 (l + 1) := ⟨rd_L_fr (fun k j hk => ⟨hs_u1_ne (by omega), rfl⟩) hMs.1, by rw [hs_u1_ne (by omega)]; exact hMs.2.1, by rw [hs_u1_self, p6_]; omega⟩
            refine aw_iinc (a := ((l : Int) : Int)) (b := (1 : Int)) (e := ((l : Int) + 1 : Int)) xd_c4e46a12 (by rw [xm_156f76cd]; rfl) rfl rfl hz (show ((Int32.ofInt 1)).toInt = 1 from by decide) (by omega) (by omega) (by omega) (fun v9_ p9_ => ?_)
            refine wk_goto xd_691562f0 (t := 7) rfl ?_
            refine ih (l + 1) _ _ (cm_u1 ws 116 2 v6_) (fun x w9 a9 b9 => hk x w9 a9 ?_) (by omega) (by omega) (by omega) hV7_ (cb_V_R (w := w1) hV7_ hR1) hM8_
            rw [bk_ts h0 er ⟨hs1, hs2⟩]
            exact b9
          · have hVs := cb_V_tr hVaa (cb_V_c (cs_V_E (rd_E_B hBs)))
            refine wk_if xd_0659ec7b (t := 52) rfl (fun h => absurd (aw_ne_t hxs hb_z h) (by omega)) (fun _ => ?_)
            refine wk_iconst xd_a2bfab8b ?_
            exact wk_ireturn xd_f979dd13 xr_00814a6a wk_z0 (hk _ _ hVs (.inr ⟨_, _, bk_tn h0 er hs1, by decide, (cs_B_B hBs (by omega))⟩))
      · have h20_1 := aw_ne_f (a := ((w.1 2 5).toInt : Int)) (b := (0 : Int)) rfl hb_z h20_1
        refine wk_aload_n xd_7f7f421b rfl ?_
        refine wk_getR xf_0c298976 xd_39b64e7e ?_
        obtain ⟨xc, wc, hCc, hc⟩ := cl_ok hM.1.2.1 hM.2.1
        refine wk_call (kd := 0) (i := 50) xd_3b4ef0de rfl (wk_cal (as := [.inr (.inr (some 2))]) (t := []) xl_fa876ce9 rfl xn_e06b76c8 xc_647a832b rfl rfl xv_dbeffa2c rfl) (cm_C_mono (by omega) hCc) ?_
        rcases hc with ⟨ht0, hxc, rfl⟩ | ⟨ht0, hxc, hBc⟩
        · exact wk_ireturn xd_1452040d xr_00814a6a (aw_bit (by omega) (by omega)) (hk _ _ hV (.inl ⟨_, bk_t0 ht0, hxc, hM.2.1⟩))
        · exact wk_ireturn xd_1452040d xr_00814a6a (aw_bit (by omega) (by omega)) (hk _ _ (cb_V_tr hV (cb_V_c (cs_V_E (rd_E_B hBc)))) (.inr ⟨1, _, bk_te ht0 (bk_l1 (rd_C_over hM.1.2.1 (by omega))), hxc, cs_B_B hBc (by omega)⟩))
theorem bal_ok {T : Nat → Int} {n m : Nat} {h : Nat → Int} {nm : Nat → Nat} {w : cm_W} (hL : rd_L w T n m 0) (hg : (w.1 2 11).toInt = 0) (hR : vl_R w 4 h nm) : ∃ x w', cm_C 7 50 [.inr (.inr (some 116))] w (some (.inl x), w') ∧ cb_V w w' ∧ ((∃ v, bk_text T n m h nm 41 0 0 = .inr v ∧ x.toInt = 1 ∧ (w'.1 2 11).toInt = 0) ∨ (∃ k q, bk_text T n m h nm 41 0 0 = .inl (k, q) ∧ x.toInt = 0 ∧ cs_B w' k q)) := by
  have h9 : ∃ oo, cm_C (6 + 1) 50 [.inr (.inr (some 116))] w oo ∧ (fun oo : cm_O => ∃ x w', oo = (some (.inl x), w') ∧ cb_V w w' ∧ ((∃ v, bk_text T n m h nm 41 0 0 = .inr v ∧ x.toInt = 1 ∧ (w'.1 2 11).toInt = 0) ∨ (∃ k q, bk_text T n m h nm 41 0 0 = .inl (k, q) ∧ x.toInt = 0 ∧ cs_B w' k q))) oo := by
    refine wk_entry (by rw [xm_156f76cd]; exact Nat.le_of_ble_eq_true rfl) ?_
    rw [show cm_ent 50 [.inr (.inr (some 116))] = [some (.inr (.inr (some 116))), none] from by unfold cm_ent; rw [xm_156f76cd]; rfl]
    refine wk_aload_n xd_3a5599e9 rfl ?_
    refine wk_iconst xd_0fd17d88 ?_
    refine wk_putI xf_0293f975 (fun ci => wk_fitI ci) xd_7b9f30e3 ?_
    refine wk_iconst xd_5370ee88 ?_
    refine wk_istore_n xd_f4c07cf3 (by rw [xm_156f76cd]; rfl) rfl ?_
    exact bal_lp (w1 := w) hR _ 41 0 0 _ (cm_u1 w 116 2 (Int32.ofInt 0)) (fun x w' a b => ⟨x, w', rfl, a, b⟩) (by omega) (show ((Int32.ofInt 0)).toInt = 0 from by decide) (by omega) (cb_V_u1 (by omega) (by omega)) (cb_V_R (w := w) (cb_V_u1 (by omega) (by omega)) hR) ⟨rd_L_fr (fun k j hk => ⟨hs_u1_ne (by omega), rfl⟩) hL, by rw [hs_u1_ne (by omega)]; exact hg, by rw [hs_u1_self]; decide⟩
  obtain ⟨oo, hC, x, w', rfl, a⟩ := h9
  exact ⟨x, w', hC, a⟩
theorem cbo_ok {w : cm_W} {T : Nat → Int} {n : Nat} {h : Nat → Int} {nm : Nat → Nat} {k : Int32} (hT : ∀ j, j < 940 → (w.1 1 j).toInt = T j) (hW : ∀ k, k < 22 → w.2 3 k = Int64.ofNat (tx_rw.getD k 0)) (hn : (w.1 0 1).toInt = (n : Int)) (hn9 : n ≤ 940) (hR : vl_R w 4 h nm) (hc : jCl w) (hG : sv_w sg w) : ∃ x w', cm_C 9 4 [.inr (.inr (some 0)), .inl k] w (some (.inl x), w') ∧ ((¬ (k.toInt = 0 ∨ k.toInt = 1) ∧ w' = w) ∨ ((k.toInt = 0 ∨ k.toInt = 1) ∧ ((∃ v, bk_text T n 400 h nm 41 0 0 = .inr v ∧ (w'.1 0 3).toInt = 0) ∨ (∃ k9 q9, bk_text T n 400 h nm 41 0 0 = .inl (k9, q9) ∧ (w'.1 0 3).toInt = (k9 : Int))))) := by
  have h9 : ∃ oo, cm_C (8 + 1) 4 [.inr (.inr (some 0)), .inl k] w oo ∧ (fun oo : cm_O => ∃ x w', oo = (some (.inl x), w') ∧ ((¬ (k.toInt = 0 ∨ k.toInt = 1) ∧ w' = w) ∨ ((k.toInt = 0 ∨ k.toInt = 1) ∧ ((∃ v, bk_text T n 400 h nm 41 0 0 = .inr v ∧ (w'.1 0 3).toInt = 0) ∨ (∃ k9 q9, bk_text T n 400 h nm 41 0 0 = .inl (k9, q9) ∧ (w'.1 0 3).toInt = (k9 : Int)))))) oo := by
    refine wk_entry (by rw [xm_b8649787]; exact Nat.le_of_ble_eq_true rfl) ?_
    rw [show cm_ent 4 [.inr (.inr (some 0)), .inl k] = [some (.inr (.inr (some 0))), some (.inl k), none] from by unfold cm_ent; rw [xm_b8649787]; rfl]
    refine wk_iload_n xd_188fc725 rfl ?_
    refine wk_if xd_46657222 (t := 13) rfl (fun h1_0 => ?_) (fun h1_0 => ?_)
    · have h1_0 := aw_eq_t (a := ((k).toInt : Int)) (b := (0 : Int)) rfl hb_z h1_0
      refine wk_aload_n xd_4d947265 rfl ?_
      refine wk_sipush xd_04c6660a ?_
      obtain ⟨wA, hCA, hLA, hfA, hzA, hFA9⟩ := ot_ok (w := w) (m := 400) (a := ((Int16.ofInt 400).toInt32)) hT hW hn (by decide) hn9 (by omega)
      obtain ⟨wA2, hCA2, hGA, hFA, hA0⟩ := jot_400 (w := w) (show (((Int16.ofInt 400).toInt32)).toInt = 400 from by decide) hG
      obtain rfl : wA = wA2 := (Prod.mk.inj (cm_det hCA hCA2)).2
      have hRA : vl_R wA 4 h nm := vl_R_f2 (fun k i _ _ => (hFA9 k i (by omega) (by omega)).1) (fun k i _ _ => (hFA9 k i (by omega) (by omega)).2) hR
      refine wk_call (kd := 0) (i := 117) xd_8b83e9fa rfl (wk_cal (as := [.inr (.inr (some 0)), .inl ((Int16.ofInt 400).toInt32)]) (t := []) xl_30e90cce rfl xn_e58bdcce xc_824ae56d rfl rfl xv_a03cc3f8 rfl) (cm_C_mono (by omega) hCA) ?_
      refine wk_aload_n xd_636fe270 rfl ?_
      refine wk_getR xf_af66a6ef xd_61b3a9eb ?_
      obtain ⟨xB, wB, hCB, hGB, hFB, hB0, hB1, hB2⟩ := jrb_ok (w := wA) hGA
      obtain ⟨xB9, wB9, hCB9, hVB, hPB⟩ := bal_ok hLA hfA hRA
      obtain ⟨e9, rfl⟩ := Prod.mk.inj (cm_det hCB hCB9)
      cases e9
      refine wk_call (kd := 0) (i := 356) xd_60daa2b9 rfl (wk_cal (as := [.inr (.inr (some 116))]) (t := []) xl_720528f1 rfl xn_ed7b14b9 xc_c701a39a rfl rfl xv_d26c51ae rfl) (cm_C_mono (by omega) hCB) ?_
      rcases hPB with ⟨v, hA, hxB, hfB⟩ | ⟨k9, q9, hA, hxB, hBB⟩
      · skip
        refine wk_istore_n xd_bbcf729f (by rw [xm_b8649787]; rfl) rfl ?_
        refine wk_aload_n xd_63d6a156 rfl ?_
        refine wk_aload_n xd_f8a54b82 rfl ?_
        refine wk_getR xf_b0c83767 xd_c81c55df ?_
        refine wk_getI xf_42ac9d61 xd_61d3ee66 ?_
        refine wk_putI xf_323159e2 (fun ci => wk_fitI ci) xd_b446fd5b ?_
        have hG2_ : sv_w sg (cm_u1 wB 0 3 (wB.1 2 11)) := sv_w_u1 hGB (by rw [xg_2addefec]; exact sv_in_top _)
        refine wk_iload_n xd_5943aea8 rfl ?_
        refine wk_if xd_7226489f (t := 54) rfl (fun _ => ?_) (fun h => absurd (aw_ne_f hxB hb_z h) (by omega))
        refine wk_iload_n xd_35488e49 rfl ?_
        refine wk_iconst xd_91efd1ea ?_
        refine wk_icmp xd_0ffdccf1 (t := 82) rfl (fun h56_3 => ?_) (fun h56_3 => ?_)
        · have h56_3 := aw_ne_t (a := ((k).toInt : Int)) (b := (1 : Int)) rfl (show ((Int32.ofInt 1)).toInt = 1 from by decide) h56_3
          refine wk_aload_n xd_85cfc128 rfl ?_
          refine wk_getR xf_9db9faf8 xd_f16e2a1f ?_
          refine wk_aload_n xd_859360bb rfl ?_
          refine wk_getR xf_62296e25 xd_4ecf46e1 ?_
          obtain ⟨wD, hCD, hGD, hFD, hxD⟩ := xs_72_c5eb5496 (w := (cm_u1 wB 0 3 (wB.1 2 11))) hG2_
          refine wk_call (kd := 0) (i := 333) xd_6ff7517b rfl (wk_cal (as := [.inr (.inr (some 40)), .inr (.inr (some 33))]) (t := []) xl_38c3371c rfl xn_437ab768 xc_33cf4b98 rfl rfl xv_249f7330 rfl) (cm_C_mono (by omega) hCD) ?_
          have hcD : jCl wD := jCl_fr (w := (cm_u1 wB 0 3 (wB.1 2 11))) (fun k i hs => by unfold jSup at hs; exact (hFD k i (by omega)).1) (jCl_fr (fun k i hs => by unfold jSup at hs; rw [hs_u1_ne (by omega), hFB k i (by omega) (by omega), hFA k i (by omega) (by omega)]) hc)
          refine wk_aload_n xd_9f994edb rfl ?_
          refine wk_getR xf_af66a6ef xd_98fbb35a ?_
          refine wk_aload_n xd_9fc5ef48 rfl ?_
          refine wk_getR xf_9db9faf8 xd_0f95a96c ?_
          obtain ⟨N, hN, hn9, hrows⟩ := hB2 (by omega)
          obtain ⟨xL, wL, hCL, hGL, hFL, hcL⟩ := jlv_40 (w := wD) hN (by rw [(hFD 116 2 (by omega)).1, hs_u1_ne (by omega)]; exact hn9) (fun j hj => jBw_eq (by rw [(hFD 117 j (by omega)).1, hs_u1_ne (by omega)]) (by rw [(hFD 119 j (by omega)).1, hs_u1_ne (by omega)]) (hrows j hj)) hcD hGD
          refine wk_call (kd := 0) (i := 358) xd_461a1f25 rfl (wk_cal (as := [.inr (.inr (some 116)), .inr (.inr (some 40))]) (t := []) xl_421bc58e rfl xn_b23ef4d7 xc_3455ba5a rfl rfl xv_acf911b2 rfl) (cm_C_mono (by omega) hCL) ?_
          exact wk_ireturn xd_c0701ab7 xr_df558ec9 rfl ⟨_, _, rfl, .inr ⟨by omega, .inl ⟨v, hA, by rw [hFL 0 3 (by omega) (by omega), (hFD 0 3 (by omega)).1, hs_u1_self]; exact hfB⟩⟩⟩
        · have h56_3 := aw_ne_f (a := ((k).toInt : Int)) (b := (1 : Int)) rfl (show ((Int32.ofInt 1)).toInt = 1 from by decide) h56_3
          refine wk_aload_n xd_c9bd7cf5 rfl ?_
          refine wk_getR xf_91513225 xd_213499e1 ?_
          refine wk_aload_n xd_7c8c4512 rfl ?_
          refine wk_getR xf_62296e25 xd_11d500bf ?_
          obtain ⟨wD, hCD, hGD, hFD, hcD⟩ := jke_ok (w := (cm_u1 wB 0 3 (wB.1 2 11))) (jCl_fr (fun k i hs => by unfold jSup at hs; rw [hs_u1_ne (by omega), hFB k i (by omega) (by omega), hFA k i (by omega) (by omega)]) hc) hG2_
          refine wk_call (kd := 0) (i := 269) xd_a0cb6f2b rfl (wk_cal (as := [.inr (.inr (some 47)), .inr (.inr (some 33))]) (t := []) xl_560996d3 rfl xn_bc92ca73 xc_4468db2a rfl rfl xv_d8d455c0 rfl) (cm_C_mono (by omega) hCD) ?_
          refine wk_aload_n xd_8b4c1908 rfl ?_
          refine wk_getR xf_af66a6ef xd_ac3a99a2 ?_
          refine wk_aload_n xd_8b10b89b rfl ?_
          refine wk_getR xf_62296e25 xd_53433626 ?_
          obtain ⟨N, hN, hn9, hrows⟩ := hB2 (by omega)
          obtain ⟨xL, wL, hCL, hGL, hFL, hcL⟩ := jlv_33 (w := wD) hN (by rw [hFD 116 2 (by omega) (by omega), hs_u1_ne (by omega)]; exact hn9) (fun j hj => jBw_eq (by rw [hFD 117 j (by omega) (by omega), hs_u1_ne (by omega)]) (by rw [hFD 119 j (by omega) (by omega), hs_u1_ne (by omega)]) (hrows j hj)) hcD hGD
          refine wk_call (kd := 0) (i := 358) xd_131ae694 rfl (wk_cal (as := [.inr (.inr (some 116)), .inr (.inr (some 33))]) (t := []) xl_421bc58e rfl xn_b23ef4d7 xc_3455ba5a rfl rfl xv_acf911b2 rfl) (cm_C_mono (by omega) hCL) ?_
          exact wk_ireturn xd_6d4b68fe xr_df558ec9 rfl ⟨_, _, rfl, .inr ⟨by omega, .inl ⟨v, hA, by rw [hFL 0 3 (by omega) (by omega), hFD 0 3 (by omega) (by omega), hs_u1_self]; exact hfB⟩⟩⟩
      · skip
        refine wk_istore_n xd_bbcf729f (by rw [xm_b8649787]; rfl) rfl ?_
        refine wk_aload_n xd_63d6a156 rfl ?_
        refine wk_aload_n xd_f8a54b82 rfl ?_
        refine wk_getR xf_b0c83767 xd_c81c55df ?_
        refine wk_getI xf_42ac9d61 xd_61d3ee66 ?_
        refine wk_putI xf_323159e2 (fun ci => wk_fitI ci) xd_b446fd5b ?_
        have hG5_ : sv_w sg (cm_u1 wB 0 3 (wB.1 2 11)) := sv_w_u1 hGB (by rw [xg_2addefec]; exact sv_in_top _)
        refine wk_iload_n xd_5943aea8 rfl ?_
        refine wk_if xd_7226489f (t := 54) rfl (fun h => absurd (aw_ne_t hxB hb_z h) (by omega)) (fun _ => ?_)
        refine wk_bipush xd_db944ec5 ?_
        refine wk_aload_n xd_487dfb67 rfl ?_
        refine wk_getR xf_b0c83767 xd_7b04425f ?_
        refine wk_getI xf_ec6e8f86 xd_36952332 ?_
        refine wk_isub xd_878b53be ?_
        exact wk_ireturn xd_7b45b843 xr_df558ec9 rfl ⟨_, _, rfl, .inr ⟨by omega, .inr ⟨k9, q9, hA, by rw [hs_u1_self]; exact hBB.1⟩⟩⟩
    · have h1_0 := aw_eq_f (a := ((k).toInt : Int)) (b := (0 : Int)) rfl hb_z h1_0
      refine wk_iload_n xd_18d366b6 rfl ?_
      refine wk_iconst xd_08e8a315 ?_
      refine wk_icmp xd_f0e9e087 (t := 13) rfl (fun h6_6 => ?_) (fun h6_6 => ?_)
      · have h6_6 := aw_eq_t (a := ((k).toInt : Int)) (b := (1 : Int)) rfl (show ((Int32.ofInt 1)).toInt = 1 from by decide) h6_6
        refine wk_aload_n xd_4d947265 rfl ?_
        refine wk_sipush xd_04c6660a ?_
        obtain ⟨wA, hCA, hLA, hfA, hzA, hFA9⟩ := ot_ok (w := w) (m := 400) (a := ((Int16.ofInt 400).toInt32)) hT hW hn (by decide) hn9 (by omega)
        obtain ⟨wA2, hCA2, hGA, hFA, hA0⟩ := jot_400 (w := w) (show (((Int16.ofInt 400).toInt32)).toInt = 400 from by decide) hG
        obtain rfl : wA = wA2 := (Prod.mk.inj (cm_det hCA hCA2)).2
        have hRA : vl_R wA 4 h nm := vl_R_f2 (fun k i _ _ => (hFA9 k i (by omega) (by omega)).1) (fun k i _ _ => (hFA9 k i (by omega) (by omega)).2) hR
        refine wk_call (kd := 0) (i := 117) xd_8b83e9fa rfl (wk_cal (as := [.inr (.inr (some 0)), .inl ((Int16.ofInt 400).toInt32)]) (t := []) xl_30e90cce rfl xn_e58bdcce xc_824ae56d rfl rfl xv_a03cc3f8 rfl) (cm_C_mono (by omega) hCA) ?_
        refine wk_aload_n xd_636fe270 rfl ?_
        refine wk_getR xf_af66a6ef xd_61b3a9eb ?_
        obtain ⟨xB, wB, hCB, hGB, hFB, hB0, hB1, hB2⟩ := jrb_ok (w := wA) hGA
        obtain ⟨xB9, wB9, hCB9, hVB, hPB⟩ := bal_ok hLA hfA hRA
        obtain ⟨e9, rfl⟩ := Prod.mk.inj (cm_det hCB hCB9)
        cases e9
        refine wk_call (kd := 0) (i := 356) xd_60daa2b9 rfl (wk_cal (as := [.inr (.inr (some 116))]) (t := []) xl_720528f1 rfl xn_ed7b14b9 xc_c701a39a rfl rfl xv_d26c51ae rfl) (cm_C_mono (by omega) hCB) ?_
        rcases hPB with ⟨v, hA, hxB, hfB⟩ | ⟨k9, q9, hA, hxB, hBB⟩
        · skip
          refine wk_istore_n xd_bbcf729f (by rw [xm_b8649787]; rfl) rfl ?_
          refine wk_aload_n xd_63d6a156 rfl ?_
          refine wk_aload_n xd_f8a54b82 rfl ?_
          refine wk_getR xf_b0c83767 xd_c81c55df ?_
          refine wk_getI xf_42ac9d61 xd_61d3ee66 ?_
          refine wk_putI xf_323159e2 (fun ci => wk_fitI ci) xd_b446fd5b ?_
          have hG8_ : sv_w sg (cm_u1 wB 0 3 (wB.1 2 11)) := sv_w_u1 hGB (by rw [xg_2addefec]; exact sv_in_top _)
          refine wk_iload_n xd_5943aea8 rfl ?_
          refine wk_if xd_7226489f (t := 54) rfl (fun _ => ?_) (fun h => absurd (aw_ne_f hxB hb_z h) (by omega))
          refine wk_iload_n xd_35488e49 rfl ?_
          refine wk_iconst xd_91efd1ea ?_
          refine wk_icmp xd_0ffdccf1 (t := 82) rfl (fun h56_9 => ?_) (fun h56_9 => ?_)
          · have h56_9 := aw_ne_t (a := ((k).toInt : Int)) (b := (1 : Int)) rfl (show ((Int32.ofInt 1)).toInt = 1 from by decide) h56_9
            refine wk_aload_n xd_85cfc128 rfl ?_
            refine wk_getR xf_9db9faf8 xd_f16e2a1f ?_
            refine wk_aload_n xd_859360bb rfl ?_
            refine wk_getR xf_62296e25 xd_4ecf46e1 ?_
            obtain ⟨wD, hCD, hGD, hFD, hxD⟩ := xs_72_c5eb5496 (w := (cm_u1 wB 0 3 (wB.1 2 11))) hG8_
            refine wk_call (kd := 0) (i := 333) xd_6ff7517b rfl (wk_cal (as := [.inr (.inr (some 40)), .inr (.inr (some 33))]) (t := []) xl_38c3371c rfl xn_437ab768 xc_33cf4b98 rfl rfl xv_249f7330 rfl) (cm_C_mono (by omega) hCD) ?_
            have hcD : jCl wD := jCl_fr (w := (cm_u1 wB 0 3 (wB.1 2 11))) (fun k i hs => by unfold jSup at hs; exact (hFD k i (by omega)).1) (jCl_fr (fun k i hs => by unfold jSup at hs; rw [hs_u1_ne (by omega), hFB k i (by omega) (by omega), hFA k i (by omega) (by omega)]) hc)
            refine wk_aload_n xd_9f994edb rfl ?_
            refine wk_getR xf_af66a6ef xd_98fbb35a ?_
            refine wk_aload_n xd_9fc5ef48 rfl ?_
            refine wk_getR xf_9db9faf8 xd_0f95a96c ?_
            obtain ⟨N, hN, hn9, hrows⟩ := hB2 (by omega)
            obtain ⟨xL, wL, hCL, hGL, hFL, hcL⟩ := jlv_40 (w := wD) hN (by rw [(hFD 116 2 (by omega)).1, hs_u1_ne (by omega)]; exact hn9) (fun j hj => jBw_eq (by rw [(hFD 117 j (by omega)).1, hs_u1_ne (by omega)]) (by rw [(hFD 119 j (by omega)).1, hs_u1_ne (by omega)]) (hrows j hj)) hcD hGD
            refine wk_call (kd := 0) (i := 358) xd_461a1f25 rfl (wk_cal (as := [.inr (.inr (some 116)), .inr (.inr (some 40))]) (t := []) xl_421bc58e rfl xn_b23ef4d7 xc_3455ba5a rfl rfl xv_acf911b2 rfl) (cm_C_mono (by omega) hCL) ?_
            exact wk_ireturn xd_c0701ab7 xr_df558ec9 rfl ⟨_, _, rfl, .inr ⟨by omega, .inl ⟨v, hA, by rw [hFL 0 3 (by omega) (by omega), (hFD 0 3 (by omega)).1, hs_u1_self]; exact hfB⟩⟩⟩
          · have h56_9 := aw_ne_f (a := ((k).toInt : Int)) (b := (1 : Int)) rfl (show ((Int32.ofInt 1)).toInt = 1 from by decide) h56_9
            refine wk_aload_n xd_c9bd7cf5 rfl ?_
            refine wk_getR xf_91513225 xd_213499e1 ?_
            refine wk_aload_n xd_7c8c4512 rfl ?_
            refine wk_getR xf_62296e25 xd_11d500bf ?_
            obtain ⟨wD, hCD, hGD, hFD, hcD⟩ := jke_ok (w := (cm_u1 wB 0 3 (wB.1 2 11))) (jCl_fr (fun k i hs => by unfold jSup at hs; rw [hs_u1_ne (by omega), hFB k i (by omega) (by omega), hFA k i (by omega) (by omega)]) hc) hG8_
            refine wk_call (kd := 0) (i := 269) xd_a0cb6f2b rfl (wk_cal (as := [.inr (.inr (some 47)), .inr (.inr (some 33))]) (t := []) xl_560996d3 rfl xn_bc92ca73 xc_4468db2a rfl rfl xv_d8d455c0 rfl) (cm_C_mono (by omega) hCD) ?_
            refine wk_aload_n xd_8b4c1908 rfl ?_
            refine wk_getR xf_af66a6ef xd_ac3a99a2 ?_
            refine wk_aload_n xd_8b10b89b rfl ?_
            refine wk_getR xf_62296e25 xd_53433626 ?_
            obtain ⟨N, hN, hn9, hrows⟩ := hB2 (by omega)
            obtain ⟨xL, wL, hCL, hGL, hFL, hcL⟩ := jlv_33 (w := wD) hN (by rw [hFD 116 2 (by omega) (by omega), hs_u1_ne (by omega)]; exact hn9) (fun j hj => jBw_eq (by rw [hFD 117 j (by omega) (by omega), hs_u1_ne (by omega)]) (by rw [hFD 119 j (by omega) (by omega), hs_u1_ne (by omega)]) (hrows j hj)) hcD hGD
            refine wk_call (kd := 0) (i := 358) xd_131ae694 rfl (wk_cal (as := [.inr (.inr (some 116)), .inr (.inr (some 33))]) (t := []) xl_421bc58e rfl xn_b23ef4d7 xc_3455ba5a rfl rfl xv_acf911b2 rfl) (cm_C_mono (by omega) hCL) ?_
            exact wk_ireturn xd_6d4b68fe xr_df558ec9 rfl ⟨_, _, rfl, .inr ⟨by omega, .inl ⟨v, hA, by rw [hFL 0 3 (by omega) (by omega), hFD 0 3 (by omega) (by omega), hs_u1_self]; exact hfB⟩⟩⟩
        · skip
          refine wk_istore_n xd_bbcf729f (by rw [xm_b8649787]; rfl) rfl ?_
          refine wk_aload_n xd_63d6a156 rfl ?_
          refine wk_aload_n xd_f8a54b82 rfl ?_
          refine wk_getR xf_b0c83767 xd_c81c55df ?_
          refine wk_getI xf_42ac9d61 xd_61d3ee66 ?_
          refine wk_putI xf_323159e2 (fun ci => wk_fitI ci) xd_b446fd5b ?_
          have hG11_ : sv_w sg (cm_u1 wB 0 3 (wB.1 2 11)) := sv_w_u1 hGB (by rw [xg_2addefec]; exact sv_in_top _)
          refine wk_iload_n xd_5943aea8 rfl ?_
          refine wk_if xd_7226489f (t := 54) rfl (fun h => absurd (aw_ne_t hxB hb_z h) (by omega)) (fun _ => ?_)
          refine wk_bipush xd_db944ec5 ?_
          refine wk_aload_n xd_487dfb67 rfl ?_
          refine wk_getR xf_b0c83767 xd_7b04425f ?_
          refine wk_getI xf_ec6e8f86 xd_36952332 ?_
          refine wk_isub xd_878b53be ?_
          exact wk_ireturn xd_7b45b843 xr_df558ec9 rfl ⟨_, _, rfl, .inr ⟨by omega, .inr ⟨k9, q9, hA, by rw [hs_u1_self]; exact hBB.1⟩⟩⟩
      · have h6_6 := aw_eq_f (a := ((k).toInt : Int)) (b := (1 : Int)) rfl (show ((Int32.ofInt 1)).toInt = 1 from by decide) h6_6
        refine wk_sipush xd_02e735e7 ?_
        exact wk_ireturn xd_b83ea8dd xr_df558ec9 rfl ⟨_, _, rfl, .inl ⟨by omega, rfl⟩⟩
  obtain ⟨oo, hC, x, w', rfl, a⟩ := h9
  exact ⟨x, w', hC, a⟩

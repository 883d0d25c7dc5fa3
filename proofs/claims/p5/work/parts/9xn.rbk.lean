/-! ## the reference's book, exactly (wip/p22/gen_rb.py) -/
def rb_M (w : cm_W) (T : Nat → Int) (n m p l : Nat) : Prop := rm_L w T n m p ∧ (w.1 184 15).toInt = 0 ∧ (w.1 184 35).toInt = (l : Int)
def rb_V (w w' : cm_W) : Prop := ∀ k i, ¬ (k = 184 ∧ (i = 4 ∨ (11 ≤ i ∧ i ≤ 18) ∨ i = 35)) → k ≠ 188 → w'.1 k i = w.1 k i ∧ w'.2 k i = w.2 k i
theorem rb_V_rf (w : cm_W) : rb_V w w := fun _ _ _ _ => ⟨rfl, rfl⟩
theorem rb_V_tr {w w1 w2 : cm_W} (h1 : rb_V w w1) (h2 : rb_V w1 w2) : rb_V w w2 := fun k i a b => ⟨(h2 k i a b).1.trans (h1 k i a b).1, (h2 k i a b).2.trans (h1 k i a b).2⟩
theorem rb_V_E {w w' : cm_W} (h : rm_E w w') : rb_V w w' := fun k i a _ => h k i (by omega)
theorem rb_V_u {w : cm_W} {i : Nat} {x : Int32} : rb_V w (cm_u1 w 188 i x) := fun k j _ b => ⟨hs_u1_ne (by omega), rfl⟩
theorem rb_V_R {w w' : cm_W} {h : Nat → Int} {nm : Nat → Nat} (hV : rb_V w w') (hR : mv_R w h nm) : mv_R w' h nm := mv_R_f2 (fun i _ => (hV 186 i (by omega) (by omega)).1) (fun i _ => (hV 189 i (by omega) (by omega)).2) hR
theorem rb_u {w : cm_W} {T : Nat → Int} {n m p l i : Nat} {x : Int32} (h : rb_M w T n m p l) : rb_M (cm_u1 w 188 i x) T n m p l := ⟨rm_L_fr (fun i => hs_u1_ne (by omega)) (fun i _ => hs_u1_ne (by omega)) rfl (fun i => rfl) h.1, by rw [hs_u1_ne (by omega)]; exact h.2.1, by rw [hs_u1_ne (by omega)]; exact h.2.2⟩
theorem rb_nx {w w' : cm_W} {T : Nat → Int} {n m p q l : Nat} (h : rb_M w T n m p l) (hE : rm_E w w') (h15 : w'.1 184 15 = w.1 184 15) (hL : rm_L w' T n m q) : rb_M w' T n m q l := ⟨hL, by rw [h15]; exact h.2.1, by rw [(hE 184 35 (by omega)).1]; exact h.2.2⟩
theorem rb_next {w : cm_W} {T : Nat → Int} {n m p l : Nat} (h : rb_M w T n m p l) (ht : 1 ≤ (tx_tk T n m p).1 ∧ (tx_tk T n m p).1 ≤ 3) : ∃ w', cm_C 2 129 [.inr (.inr (some 184))] w (none, w') ∧ rm_S w w' ∧ rb_M w' T n m (tx_tk T n m p).2.2.1 l := by
  have hb := tx_tk_b (m := m) (T := T) h.1.2.2 ht
  obtain ⟨w', hC, hS, hR⟩ := mn_ok (w := w) (p := (tx_tk T n m p).2.2.1) h.1.1 (rm_C_at h.1.2.1 ht) hb.2.1
  exact ⟨w', hC, hS, rb_nx h (rm_E_S hS) (hS 184 15 (by omega)).1 ⟨rm_T_S h.1.1 hS, hR, hb.2.1⟩⟩
def rb_P (T : Nat → Int) (n m l : Nat) (r : bk_R) (x : Int32) (w : cm_W) : Prop := match r with
  | .inl e => x.toInt = 0 ∧ cr_B w e.1 e.2
  | .inr p => x.toInt = 1 ∧ rb_M w T n m p l
theorem rb_P_e {T : Nat → Int} {n m l k q : Nat} {r : bk_R} {x : Int32} {w : cm_W} (hr : r = .inl (k, q)) (hx : x.toInt = 0) (hB : cr_B w k q) : rb_P T n m l r x w := by
  rw [hr]
  exact ⟨hx, hB⟩
theorem rb_P_y {T : Nat → Int} {n m l p : Nat} {r : bk_R} {x : Int32} {w : cm_W} (hr : r = .inr p) (hx : x.toInt = 1) (hM : rb_M w T n m p l) : rb_P T n m l r x w := by
  rw [hr]
  exact ⟨hx, hM⟩
theorem rb_P_c {T : Nat → Int} {n m l : Nat} {r : bk_R} {x : Int32} {w : cm_W} (h : rb_P T n m l r x w) : (∃ k q, r = .inl (k, q) ∧ x.toInt = 0 ∧ cr_B w k q) ∨ (∃ p', r = .inr p' ∧ x.toInt = 1 ∧ rb_M w T n m p' l) := by
  match r, h with
  | .inl (k, q), h => exact .inl ⟨k, q, rfl, h.1, h.2⟩
  | .inr p', h => exact .inr ⟨p', rfl, h.1, h.2⟩
theorem cm_X_and {C : Nat → List cm_V → cm_W → cm_O → Prop} {y pc : Nat} {lv : cm_L} {st : List cm_V} {w : cm_W} {P R Q : cm_O → Prop} (h : cm_X C y pc lv st w P) (hr : ∀ F o, cm_R C y F pc lv st w o → R o) (hi : ∀ o, P o → R o → Q o) : cm_X C y pc lv st w Q := by
  obtain ⟨F, o, h1, h2⟩ := h
  exact ⟨F, o, h1, hi o h2 (hr F o h1)⟩
theorem rb_take {w : cm_W} {T : Nat → Int} {n m p l : Nat} {nm : Nat → Nat} {a b k : Nat} {va vb : Int32} (hM : rb_M w T n m p l) (hN : rm_N w a b k nm) (hak : a + k ≤ 32) (hva : va.toInt = (a : Int)) (hvb : vb.toInt = (k : Int)) : ∃ x w', cm_C 5 286 [.inr (.inr (some 184)), .inl va, .inl vb] w (some (.inl x), w') ∧ rb_V w w' ∧ ((∃ i, ps_look T n m nm b k p = .inr i ∧ x.toInt = 1 ∧ rb_M w' T n m (tx_tk T n m p).2.2.1 l) ∨ (∃ k9 q9, ps_look T n m nm b k p = .inl (k9, q9) ∧ x.toInt = 0 ∧ cr_B w' k9 q9)) := by
  have h9 : ∃ oo, cm_C (4 + 1) 286 [.inr (.inr (some 184)), .inl va, .inl vb] w oo ∧ (fun oo : cm_O => ∃ x w', oo = (some (.inl x), w') ∧ rb_V w w' ∧ ((∃ i, ps_look T n m nm b k p = .inr i ∧ x.toInt = 1 ∧ rb_M w' T n m (tx_tk T n m p).2.2.1 l) ∨ (∃ k9 q9, ps_look T n m nm b k p = .inl (k9, q9) ∧ x.toInt = 0 ∧ cr_B w' k9 q9))) oo := by
    refine wk_entry (by rw [xm_803f4e93]; exact Nat.le_of_ble_eq_true rfl) ?_
    rw [show cm_ent 286 [.inr (.inr (some 184)), .inl va, .inl vb] = [some (.inr (.inr (some 184))), some (.inl va), some (.inl vb)] from by unfold cm_ent; rw [xm_803f4e93]; rfl]
    refine wk_aload_n xd_c779e396 rfl ?_
    refine wk_iload_n xd_3b69f39f rfl ?_
    refine wk_iload_n xd_0a2cb072 rfl ?_
    obtain ⟨xk, wk, hCk, hk⟩ := sr_look hM.1 hN hak hva hvb
    refine wk_call (kd := 0) (i := 201) xd_bf17811b rfl (wk_cal (as := [.inr (.inr (some 184)), .inl va, .inl vb]) (t := []) xl_910ba3f1 rfl xn_77145da2 xc_6d225164 rfl rfl xv_5b2ff62c rfl) (cm_C_mono (by omega) hCk) ?_
    rcases hk with ⟨i9, el, hxk, hgk, fk1, fk2⟩ | ⟨k9, q9, el, hxk, hBk⟩
    · have hlb := ps_look_b el
      have hMk : rb_M wk T n m p l := ⟨rm_L_fr (fun i => fk1 185 i (by omega)) (fun i hi => fk1 184 i (by omega)) (by rw [fk2]) (fun i => by rw [fk2]) hM.1, by rw [fk1 184 15 (by omega)]; exact hM.2.1, by rw [fk1 184 35 (by omega)]; exact hM.2.2⟩
      refine wk_if xd_18d85a25 (t := 11) rfl (fun _ => ?_) (fun h => absurd (aw_ne_f hxk hb_z h) (by omega))
      refine wk_aload_n xd_0ab0780d rfl ?_
      obtain ⟨wn, hCn, hSn, hMn⟩ := rb_next hMk hlb.2.2
      refine wk_call (kd := 0) (i := 179) xd_1bcd0988 rfl (wk_cal (as := [.inr (.inr (some 184))]) (t := []) xl_dc458e32 rfl xn_00af7311 xc_b2cf5bb1 rfl rfl xv_e7aa8f3d rfl) (cm_C_mono (by omega) hCn) ?_
      refine wk_iconst xd_2926ae17 ?_
      exact wk_ireturn xd_82bccd51 xr_59c69e88 wk_z1 ⟨_, _, rfl, rb_V_tr (show rb_V w wk from fun k i a b => ⟨fk1 k i (by omega), by rw [fk2]⟩) (rb_V_E (rm_E_S hSn)), .inl ⟨_, el, by decide, hMn⟩⟩
    · skip
      refine wk_if xd_18d85a25 (t := 11) rfl (fun h => absurd (aw_ne_t hxk hb_z h) (by omega)) (fun _ => ?_)
      refine wk_iconst xd_f8115e92 ?_
      exact wk_ireturn xd_7481c897 xr_59c69e88 wk_z0 ⟨_, _, rfl, rb_V_E (rm_E_B hBk), .inr ⟨_, _, el, by decide, cr_B_B hBk⟩⟩
  obtain ⟨oo, hC, x, w', rfl, a⟩ := h9
  exact ⟨x, w', hC, a⟩
theorem rl_9 {T : Nat → Int} {n m : Nat} {h : Nat → Int} {nm : Nat → Nat} {w : cm_W} {p l : Nat} (hR : mv_R w h nm) (hM : rb_M w T n m p l) (hl9 : l ≤ 40) (hw : ps_wd (tx_tk T n m p) 9) : ∃ x w', cm_C 6 246 [.inr (.inr (some 184))] w (some (.inl x), w') ∧ rb_V w w' ∧ rb_P T n m l (bk_line T n m h nm l p) x w' := by
  have hs : 1 ≤ (tx_tk T n m p).1 ∧ (tx_tk T n m p).1 ≤ 3 := by have := hw.1; omega
  have h9 : ∃ oo, cm_C (5 + 1) 246 [.inr (.inr (some 184))] w oo ∧ (fun oo : cm_O => ∃ x w', oo = (some (.inl x), w') ∧ rb_V w w' ∧ rb_P T n m l (bk_line T n m h nm l p) x w') oo := by
    refine wk_entry (by rw [xm_1e9e2bdd]; exact Nat.le_of_ble_eq_true rfl) ?_
    rw [show cm_ent 246 [.inr (.inr (some 184))] = [some (.inr (.inr (some 184))), none, none, none, none] from by unfold cm_ent; rw [xm_1e9e2bdd]; rfl]
    refine wk_iconst xd_6e67dde0 ?_
    refine wk_aload_n xd_ffc9b48d rfl ?_
    refine wk_getI xf_e9a2fb12 xd_9c4f08dd ?_
    refine aw_imul (a := (3 : Int)) (b := ((l : Int) : Int)) (e := (3 * (l : Int) : Int)) xd_54fdbf5a (show ((Int32.ofInt 3)).toInt = 3 from by decide) (show ((w.1 184 35)).toInt = ((l : Int) : Int) from hM.2.2) (by omega) (by omega) (by omega) (fun v1_ p1_ => ?_)
    refine wk_istore_n xd_3fff20b8 (by rw [xm_1e9e2bdd]; rfl) rfl ?_
    refine wk_aload_n xd_1203c6f7 rfl ?_
    refine aw_ldc2 xl_94b0da36 rfl xd_7196d0d0 ?_
    obtain ⟨xw9_11, hCw9_11, hxw9_11⟩ := mw_ok (w := w) (l := (Int64.ofNat 1835361652)) (c := tx_rw.getD 9 0) (by decide) (tx_rw32 (by omega)) hM.1.2.1
    have ew9_11 : xw9_11.toInt = 1 := hxw9_11.elim (fun z => z.1) (fun z => absurd hw z.2)
    refine wk_call (kd := 0) (i := 210) xd_aab442b3 rfl (wk_cal (as := [.inr (.inr (some 184)), .inr (.inl (Int64.ofNat 1835361652))]) (t := []) xl_56cf5afc rfl xn_94b640da xc_24159032 rfl rfl xv_bdbd9e17 rfl) (cm_C_mono (by omega) hCw9_11) ?_
    refine wk_istore_n xd_b59bcbf8 (by rw [xm_1e9e2bdd]; rfl) rfl ?_
    refine wk_aload_n xd_0194c502 rfl ?_
    refine aw_ldc2 xl_46279b00 rfl xd_7d99b0c1 ?_
    obtain ⟨xw10_19, hCw10_19, hxw10_19⟩ := mw_ok (w := w) (l := (Int64.ofNat 1752135026)) (c := tx_rw.getD 10 0) (by decide) (tx_rw32 (by omega)) hM.1.2.1
    have ew10_19 : xw10_19.toInt = 0 := hxw10_19.elim (fun z => absurd z.2 (ps_wd_ne (i := 10) hw (by omega) (by omega) (by omega))) (fun z => z.1)
    refine wk_call (kd := 0) (i := 210) xd_dd8b043b rfl (wk_cal (as := [.inr (.inr (some 184)), .inr (.inl (Int64.ofNat 1752135026))]) (t := []) xl_56cf5afc rfl xn_94b640da xc_24159032 rfl rfl xv_bdbd9e17 rfl) (cm_C_mono (by omega) hCw10_19) ?_
    refine wk_istore_n xd_0d2b064b (by rw [xm_1e9e2bdd]; rfl) rfl ?_
    refine wk_iload_n xd_94839e5d rfl ?_
    refine wk_if xd_87bcf479 (t := 47) rfl (fun _ => ?_) (fun h => absurd (aw_ne_f ew9_11 hb_z h) (by omega))
    refine wk_aload_n xd_0421ed93 rfl ?_
    refine wk_getI xf_e9a2fb12 xd_30e2b169 ?_
    refine wk_bipush xd_be1b9839 ?_
    refine wk_icmp xd_85a27577 (t := 62) rfl (fun h53_2 => ?_) (fun h53_2 => ?_)
    · have h53_2 := aw_ne_t (a := ((l : Int) : Int)) (b := (40 : Int)) (show ((w.1 184 35)).toInt = ((l : Int) : Int) from hM.2.2) (show (((Int8.ofInt 40).toInt32)).toInt = 40 from by decide) h53_2
      refine wk_aload_n xd_46356adb rfl ?_
      refine wk_getR xf_fbe359c7 xd_44a7f25e ?_
      refine wk_iload_n xd_210a3195 rfl ?_
      refine wk_iconst xd_d20c42f6 ?_
      refine aw_iadd (a := (3 * (l : Int) : Int)) (b := (1 : Int)) (e := (3 * (l : Int) + 1 : Int)) xd_90fd4193 p1_ (show ((Int32.ofInt 1)).toInt = 1 from by decide) (by omega) (by omega) (by omega) (fun v4_ p4_ => ?_)
      refine wk_aload_n xd_306910c0 rfl ?_
      refine wk_getI xf_0beae9b4 xd_f05c20fa ?_
      refine aw_iastore (i := (1 + 3 * l)) xf_659780ae p4_ (by omega) (by omega) xd_a5ee5817 ?_
      have hV5_ := rb_V_tr (rb_V_rf w) (rb_V_u (w := w) (i := (1 + 3 * l)) (x := (w.1 184 18)))
      have hM6_ := rb_u (i := (1 + 3 * l)) (x := (w.1 184 18)) hM
      refine wk_aload_n xd_2ada7d86 rfl ?_
      obtain ⟨wn7_, hCn7_, hSn7_, hMn7_⟩ := rb_next hM6_ hs
      have hVn7_ := rb_V_tr hV5_ (rb_V_E (rm_E_S hSn7_))
      refine wk_call (kd := 0) (i := 179) xd_32c56d39 rfl (wk_cal (as := [.inr (.inr (some 184))]) (t := []) xl_9e9a7c95 rfl xn_00af7311 xc_b2cf5bb1 rfl rfl xv_e7aa8f3d rfl) (cm_C_mono (by omega) hCn7_) ?_
      refine wk_iload_n xd_0afc1f3e rfl ?_
      refine wk_if xd_9bac4aef (t := 120) rfl (fun h => absurd (aw_eq_t ew9_11 hb_z h) (by omega)) (fun _ => ?_)
      refine wk_aload_n xd_24050435 rfl ?_
      refine wk_getR xf_fbe359c7 xd_2e500253 ?_
      refine wk_iload_n xd_433a5f7b rfl ?_
      refine wk_iconst xd_45bf20ca ?_
      refine aw_iastore (i := (3 * l)) xf_659780ae p1_ (by omega) (by omega) xd_2798cbc2 ?_
      have hV9_ := rb_V_tr hVn7_ (rb_V_u (w := wn7_) (i := (3 * l)) (x := (Int32.ofInt 3)))
      have hM10_ := rb_u (i := (3 * l)) (x := (Int32.ofInt 3)) hMn7_
      refine wk_aload_n xd_52597e2e rfl ?_
      refine wk_bipush xd_ceae41bf ?_
      refine wk_aload_n xd_a5206112 rfl ?_
      refine wk_getR xf_8e66127e xd_93e8eeac ?_
      refine wk_iconst xd_f484876e ?_
      refine aw_iaload (i := 2) xf_31d67ad9 (show ((Int32.ofInt 2)).toInt = 2 from by decide) (by omega) (by omega) xd_ccfe56b5 ?_
      have hRq := rb_V_R hV9_ hR
      obtain ⟨xk, wk, hCk, hVk, hk⟩ := rb_take (w := (cm_u1 wn7_ 188 (3 * l) (Int32.ofInt 3))) (nm := nm) (a := 10) (b := 10) (k := (h 2).toNat) (va := ((Int8.ofInt 10).toInt32)) (vb := ((cm_u1 wn7_ 188 (3 * l) (Int32.ofInt 3)).1 186 2)) hM10_ (sr_n2 hRq).1 (sr_n2 hRq).2.1 (show (((Int8.ofInt 10).toInt32)).toInt = 10 from by decide) ((show (((cm_u1 wn7_ 188 (3 * l) (Int32.ofInt 3)).1 186 2)).toInt = (((h 2).toNat : Int) : Int) from (sr_n2 (rb_V_R hVn7_ hR)).2.2))
      have hVka := rb_V_tr hV9_ hVk
      refine wk_call (kd := 0) (i := 229) xd_bbfcc861 rfl (wk_cal (as := [.inr (.inr (some 184)), .inl ((Int8.ofInt 10).toInt32), .inl ((cm_u1 wn7_ 188 (3 * l) (Int32.ofInt 3)).1 186 2)]) (t := []) xl_78f6dfdc rfl xn_fc82bc17 xc_e83768f1 rfl rfl xv_3626efb9 rfl) (cm_C_mono (by omega) hCk) ?_
      rcases hk with ⟨i9, el, hxk, hMk⟩ | ⟨k9, q9, el, hxk, hBk⟩
      · skip
        refine wk_if xd_5039344d (t := 106) rfl (fun _ => ?_) (fun h => absurd (aw_ne_f hxk hb_z h) (by omega))
        refine wk_aload_n xd_e2abc487 rfl ?_
        refine wk_getR xf_fbe359c7 xd_63c7ca77 ?_
        refine wk_iload_n xd_e9272907 rfl ?_
        refine wk_iconst xd_284550c4 ?_
        refine aw_iadd (a := (3 * (l : Int) : Int)) (b := (1 : Int)) (e := (3 * (l : Int) + 1 : Int)) xd_86004349 p1_ (show ((Int32.ofInt 1)).toInt = 1 from by decide) (by omega) (by omega) (by omega) (fun v12_ p12_ => ?_)
        refine wk_aload_n xd_f8a1eae7 rfl ?_
        refine wk_getI xf_0beae9b4 xd_b2c9d8ae ?_
        refine aw_iastore (i := (1 + 3 * l)) xf_659780ae p12_ (by omega) (by omega) xd_102d6cb4 ?_
        have hV13_ := rb_V_tr hVka (rb_V_u (w := wk) (i := (1 + 3 * l)) (x := (wk.1 184 18)))
        have hM14_ := rb_u (i := (1 + 3 * l)) (x := (wk.1 184 18)) hMk
        refine wk_iconst xd_862e1204 ?_
        exact wk_ireturn xd_64df9385 xr_453fe782 wk_z1 ⟨_, _, rfl, hV13_, rb_P_y ((bk_l9 hw (by omega)).trans (bk_n_y el)) (by decide) hM14_⟩
      · skip
        refine wk_if xd_5039344d (t := 106) rfl (fun h => absurd (aw_ne_t hxk hb_z h) (by omega)) (fun _ => ?_)
        refine wk_iconst xd_c5df6460 ?_
        exact wk_ireturn xd_44fcfa88 xr_453fe782 wk_z0 ⟨_, _, rfl, hVka, rb_P_e ((bk_l9 hw (by omega)).trans (bk_n_e el)) (by decide) hBk⟩
    · have h53_2 := aw_ne_f (a := ((l : Int) : Int)) (b := (40 : Int)) (show ((w.1 184 35)).toInt = ((l : Int) : Int) from hM.2.2) (show (((Int8.ofInt 40).toInt32)).toInt = 40 from by decide) h53_2
      refine wk_aload_n xd_1e776260 rfl ?_
      refine wk_iconst xd_6c09f4bb ?_
      have hBb := rm_bB (w := w) (k := (Int32.ofInt 4)) (c := 4) (by decide) hM.1.2.1.1
      have hVb : rb_V w (cm_u1 (cm_u1 w 184 15 (Int32.ofInt 4)) 184 16 ((cm_u1 w 184 15 (Int32.ofInt 4)).1 184 12)) := rb_V_tr (rb_V_rf w) (rb_V_E (rm_E_B hBb))
      refine wk_call (kd := 0) (i := 176) xd_ca17fae0 rfl (wk_cal (as := [.inr (.inr (some 184)), .inl (Int32.ofInt 4)]) (t := []) xl_e89d0391 rfl xn_f63023b8 xc_1907b494 rfl rfl xv_a1095a1b rfl) (cm_C_mono (by omega) (mb_ok (w := w) (k := (Int32.ofInt 4)))) ?_
      exact wk_ireturn xd_f13fce2b xr_453fe782 wk_z0 ⟨_, _, rfl, hVb, rb_P_e (bk_l9f hw (by omega)) (by decide) (cr_B_B hBb)⟩
  obtain ⟨oo, hC, x, w', rfl, a⟩ := h9
  exact ⟨x, w', hC, a⟩
theorem rl_10 {T : Nat → Int} {n m : Nat} {h : Nat → Int} {nm : Nat → Nat} {w : cm_W} {p l : Nat} (hR : mv_R w h nm) (hM : rb_M w T n m p l) (hl9 : l ≤ 40) (h9 : ¬ ps_wd (tx_tk T n m p) 9) (hw : ps_wd (tx_tk T n m p) 10) : ∃ x w', cm_C 6 246 [.inr (.inr (some 184))] w (some (.inl x), w') ∧ rb_V w w' ∧ rb_P T n m l (bk_line T n m h nm l p) x w' := by
  have hs : 1 ≤ (tx_tk T n m p).1 ∧ (tx_tk T n m p).1 ≤ 3 := by have := hw.1; omega
  have h9 : ∃ oo, cm_C (5 + 1) 246 [.inr (.inr (some 184))] w oo ∧ (fun oo : cm_O => ∃ x w', oo = (some (.inl x), w') ∧ rb_V w w' ∧ rb_P T n m l (bk_line T n m h nm l p) x w') oo := by
    refine wk_entry (by rw [xm_1e9e2bdd]; exact Nat.le_of_ble_eq_true rfl) ?_
    rw [show cm_ent 246 [.inr (.inr (some 184))] = [some (.inr (.inr (some 184))), none, none, none, none] from by unfold cm_ent; rw [xm_1e9e2bdd]; rfl]
    refine wk_iconst xd_6e67dde0 ?_
    refine wk_aload_n xd_ffc9b48d rfl ?_
    refine wk_getI xf_e9a2fb12 xd_9c4f08dd ?_
    refine aw_imul (a := (3 : Int)) (b := ((l : Int) : Int)) (e := (3 * (l : Int) : Int)) xd_54fdbf5a (show ((Int32.ofInt 3)).toInt = 3 from by decide) (show ((w.1 184 35)).toInt = ((l : Int) : Int) from hM.2.2) (by omega) (by omega) (by omega) (fun v1_ p1_ => ?_)
    refine wk_istore_n xd_3fff20b8 (by rw [xm_1e9e2bdd]; rfl) rfl ?_
    refine wk_aload_n xd_1203c6f7 rfl ?_
    refine aw_ldc2 xl_94b0da36 rfl xd_7196d0d0 ?_
    obtain ⟨xw9_11, hCw9_11, hxw9_11⟩ := mw_ok (w := w) (l := (Int64.ofNat 1835361652)) (c := tx_rw.getD 9 0) (by decide) (tx_rw32 (by omega)) hM.1.2.1
    have ew9_11 : xw9_11.toInt = 0 := hxw9_11.elim (fun z => absurd z.2 h9) (fun z => z.1)
    refine wk_call (kd := 0) (i := 210) xd_aab442b3 rfl (wk_cal (as := [.inr (.inr (some 184)), .inr (.inl (Int64.ofNat 1835361652))]) (t := []) xl_56cf5afc rfl xn_94b640da xc_24159032 rfl rfl xv_bdbd9e17 rfl) (cm_C_mono (by omega) hCw9_11) ?_
    refine wk_istore_n xd_b59bcbf8 (by rw [xm_1e9e2bdd]; rfl) rfl ?_
    refine wk_aload_n xd_0194c502 rfl ?_
    refine aw_ldc2 xl_46279b00 rfl xd_7d99b0c1 ?_
    obtain ⟨xw10_19, hCw10_19, hxw10_19⟩ := mw_ok (w := w) (l := (Int64.ofNat 1752135026)) (c := tx_rw.getD 10 0) (by decide) (tx_rw32 (by omega)) hM.1.2.1
    have ew10_19 : xw10_19.toInt = 1 := hxw10_19.elim (fun z => z.1) (fun z => absurd hw z.2)
    refine wk_call (kd := 0) (i := 210) xd_dd8b043b rfl (wk_cal (as := [.inr (.inr (some 184)), .inr (.inl (Int64.ofNat 1752135026))]) (t := []) xl_56cf5afc rfl xn_94b640da xc_24159032 rfl rfl xv_bdbd9e17 rfl) (cm_C_mono (by omega) hCw10_19) ?_
    refine wk_istore_n xd_0d2b064b (by rw [xm_1e9e2bdd]; rfl) rfl ?_
    refine wk_iload_n xd_94839e5d rfl ?_
    refine wk_if xd_87bcf479 (t := 47) rfl (fun h => absurd (aw_ne_t ew9_11 hb_z h) (by omega)) (fun _ => ?_)
    refine wk_iload_n xd_a9bf167e rfl ?_
    refine wk_if xd_e85b23b9 (t := 47) rfl (fun _ => ?_) (fun h => absurd (aw_ne_f ew10_19 hb_z h) (by omega))
    refine wk_aload_n xd_0421ed93 rfl ?_
    refine wk_getI xf_e9a2fb12 xd_30e2b169 ?_
    refine wk_bipush xd_be1b9839 ?_
    refine wk_icmp xd_85a27577 (t := 62) rfl (fun h53_3 => ?_) (fun h53_3 => ?_)
    · have h53_3 := aw_ne_t (a := ((l : Int) : Int)) (b := (40 : Int)) (show ((w.1 184 35)).toInt = ((l : Int) : Int) from hM.2.2) (show (((Int8.ofInt 40).toInt32)).toInt = 40 from by decide) h53_3
      refine wk_aload_n xd_46356adb rfl ?_
      refine wk_getR xf_fbe359c7 xd_44a7f25e ?_
      refine wk_iload_n xd_210a3195 rfl ?_
      refine wk_iconst xd_d20c42f6 ?_
      refine aw_iadd (a := (3 * (l : Int) : Int)) (b := (1 : Int)) (e := (3 * (l : Int) + 1 : Int)) xd_90fd4193 p1_ (show ((Int32.ofInt 1)).toInt = 1 from by decide) (by omega) (by omega) (by omega) (fun v5_ p5_ => ?_)
      refine wk_aload_n xd_306910c0 rfl ?_
      refine wk_getI xf_0beae9b4 xd_f05c20fa ?_
      refine aw_iastore (i := (1 + 3 * l)) xf_659780ae p5_ (by omega) (by omega) xd_a5ee5817 ?_
      have hV6_ := rb_V_tr (rb_V_rf w) (rb_V_u (w := w) (i := (1 + 3 * l)) (x := (w.1 184 18)))
      have hM7_ := rb_u (i := (1 + 3 * l)) (x := (w.1 184 18)) hM
      refine wk_aload_n xd_2ada7d86 rfl ?_
      obtain ⟨wn8_, hCn8_, hSn8_, hMn8_⟩ := rb_next hM7_ hs
      have hVn8_ := rb_V_tr hV6_ (rb_V_E (rm_E_S hSn8_))
      refine wk_call (kd := 0) (i := 179) xd_32c56d39 rfl (wk_cal (as := [.inr (.inr (some 184))]) (t := []) xl_9e9a7c95 rfl xn_00af7311 xc_b2cf5bb1 rfl rfl xv_e7aa8f3d rfl) (cm_C_mono (by omega) hCn8_) ?_
      refine wk_iload_n xd_0afc1f3e rfl ?_
      refine wk_if xd_9bac4aef (t := 120) rfl (fun _ => ?_) (fun h => absurd (aw_eq_f ew9_11 hb_z h) (by omega))
      refine wk_iload_n xd_cbf9d34f rfl ?_
      refine wk_if xd_f9d01cba (t := 157) rfl (fun h => absurd (aw_eq_t ew10_19 hb_z h) (by omega)) (fun _ => ?_)
      refine wk_aload_n xd_d606db61 rfl ?_
      refine wk_getR xf_fbe359c7 xd_e6eba745 ?_
      refine wk_iload_n xd_b180c309 rfl ?_
      refine wk_iconst xd_2f03c089 ?_
      refine aw_iastore (i := (3 * l)) xf_659780ae p1_ (by omega) (by omega) xd_579a236c ?_
      have hV11_ := rb_V_tr hVn8_ (rb_V_u (w := wn8_) (i := (3 * l)) (x := (Int32.ofInt 4)))
      have hM12_ := rb_u (i := (3 * l)) (x := (Int32.ofInt 4)) hMn8_
      refine wk_aload_n xd_cc0cf501 rfl ?_
      refine wk_iconst xd_fcab2e6d ?_
      refine wk_bipush xd_ba87e514 ?_
      obtain ⟨xt, wt, hCt, ht9⟩ := mt_ok (w := (cm_u1 wn8_ 188 (3 * l) (Int32.ofInt 4))) (a := (Int32.ofInt 1)) (b := ((Int8.ofInt 60).toInt32)) (lo := 1) (hi := 60) (by decide) (by decide) hM12_.1
      refine wk_call (kd := 0) (i := 189) xd_771f7162 rfl (wk_cal (as := [.inr (.inr (some 184)), .inl (Int32.ofInt 1), .inl ((Int8.ofInt 60).toInt32)]) (t := []) xl_03919e44 rfl xn_bb22c6c7 xc_d9722b1c rfl rfl xv_6d315eac rfl) (cm_C_mono (by omega) hCt) ?_
      rcases ht9 with ⟨et, _, _, _, hxt, hgt, hLt, hEt, hft⟩ | ⟨et, hxt, hBt⟩
      · have hMt := rb_nx hM12_ hEt hft hLt
        have hVt := rb_V_tr hV11_ (rb_V_E hEt)
        refine wk_if xd_519992a5 (t := 143) rfl (fun _ => ?_) (fun h => absurd (aw_ne_f hxt hb_z h) (by omega))
        refine wk_aload_n xd_1082119f rfl ?_
        refine wk_getR xf_fbe359c7 xd_7cbeeafa ?_
        refine wk_iload_n xd_77bd4ad1 rfl ?_
        refine wk_iconst xd_1d015943 ?_
        refine aw_iadd (a := (3 * (l : Int) : Int)) (b := (1 : Int)) (e := (3 * (l : Int) + 1 : Int)) xd_455dbd9d p1_ (show ((Int32.ofInt 1)).toInt = 1 from by decide) (by omega) (by omega) (by omega) (fun v14_ p14_ => ?_)
        refine wk_aload_n xd_e7424d85 rfl ?_
        refine wk_getI xf_0beae9b4 xd_1e0183a2 ?_
        refine aw_iastore (i := (1 + 3 * l)) xf_659780ae p14_ (by omega) (by omega) xd_37927d57 ?_
        have hV15_ := rb_V_tr hVt (rb_V_u (w := wt) (i := (1 + 3 * l)) (x := (wt.1 184 18)))
        have hM16_ := rb_u (i := (1 + 3 * l)) (x := (wt.1 184 18)) hMt
        refine wk_iconst xd_74b86257 ?_
        exact wk_ireturn xd_746b8fab xr_453fe782 wk_z1 ⟨_, _, rfl, hV15_, rb_P_y (bk_l10y h9 hw (by omega) et) (by decide) hM16_⟩
      · have hVt := rb_V_tr hV11_ (rb_V_E (rm_E_B hBt))
        refine wk_if xd_519992a5 (t := 143) rfl (fun h => absurd (aw_ne_t hxt hb_z h) (by omega)) (fun _ => ?_)
        refine wk_iconst xd_8e0a3233 ?_
        exact wk_ireturn xd_71baefd0 xr_453fe782 wk_z0 ⟨_, _, rfl, hVt, rb_P_e (bk_l10n h9 hw (by omega) et) (by decide) (cr_B_B hBt)⟩
    · have h53_3 := aw_ne_f (a := ((l : Int) : Int)) (b := (40 : Int)) (show ((w.1 184 35)).toInt = ((l : Int) : Int) from hM.2.2) (show (((Int8.ofInt 40).toInt32)).toInt = 40 from by decide) h53_3
      refine wk_aload_n xd_1e776260 rfl ?_
      refine wk_iconst xd_6c09f4bb ?_
      have hBb := rm_bB (w := w) (k := (Int32.ofInt 4)) (c := 4) (by decide) hM.1.2.1.1
      have hVb : rb_V w (cm_u1 (cm_u1 w 184 15 (Int32.ofInt 4)) 184 16 ((cm_u1 w 184 15 (Int32.ofInt 4)).1 184 12)) := rb_V_tr (rb_V_rf w) (rb_V_E (rm_E_B hBb))
      refine wk_call (kd := 0) (i := 176) xd_ca17fae0 rfl (wk_cal (as := [.inr (.inr (some 184)), .inl (Int32.ofInt 4)]) (t := []) xl_e89d0391 rfl xn_f63023b8 xc_1907b494 rfl rfl xv_a1095a1b rfl) (cm_C_mono (by omega) (mb_ok (w := w) (k := (Int32.ofInt 4)))) ?_
      exact wk_ireturn xd_f13fce2b xr_453fe782 wk_z0 ⟨_, _, rfl, hVb, rb_P_e (bk_l10f h9 hw (by omega)) (by decide) (cr_B_B hBb)⟩
  obtain ⟨oo, hC, x, w', rfl, a⟩ := h9
  exact ⟨x, w', hC, a⟩
theorem rl_p {T : Nat → Int} {n m : Nat} {h : Nat → Int} {nm : Nat → Nat} {w : cm_W} {p l : Nat} (hR : mv_R w h nm) (hM : rb_M w T n m p l) (hl9 : l ≤ 40) (h9 : ¬ ps_wd (tx_tk T n m p) 9) (h10 : ¬ ps_wd (tx_tk T n m p) 10) : ∃ x w', cm_C 6 246 [.inr (.inr (some 184))] w (some (.inl x), w') ∧ rb_V w w' ∧ rb_P T n m l (bk_line T n m h nm l p) x w' := by
  have h9 : ∃ oo, cm_C (5 + 1) 246 [.inr (.inr (some 184))] w oo ∧ (fun oo : cm_O => ∃ x w', oo = (some (.inl x), w') ∧ rb_V w w' ∧ rb_P T n m l (bk_line T n m h nm l p) x w') oo := by
    refine wk_entry (by rw [xm_1e9e2bdd]; exact Nat.le_of_ble_eq_true rfl) ?_
    rw [show cm_ent 246 [.inr (.inr (some 184))] = [some (.inr (.inr (some 184))), none, none, none, none] from by unfold cm_ent; rw [xm_1e9e2bdd]; rfl]
    refine wk_iconst xd_6e67dde0 ?_
    refine wk_aload_n xd_ffc9b48d rfl ?_
    refine wk_getI xf_e9a2fb12 xd_9c4f08dd ?_
    refine aw_imul (a := (3 : Int)) (b := ((l : Int) : Int)) (e := (3 * (l : Int) : Int)) xd_54fdbf5a (show ((Int32.ofInt 3)).toInt = 3 from by decide) (show ((w.1 184 35)).toInt = ((l : Int) : Int) from hM.2.2) (by omega) (by omega) (by omega) (fun v1_ p1_ => ?_)
    refine wk_istore_n xd_3fff20b8 (by rw [xm_1e9e2bdd]; rfl) rfl ?_
    refine wk_aload_n xd_1203c6f7 rfl ?_
    refine aw_ldc2 xl_94b0da36 rfl xd_7196d0d0 ?_
    obtain ⟨xw9_11, hCw9_11, hxw9_11⟩ := mw_ok (w := w) (l := (Int64.ofNat 1835361652)) (c := tx_rw.getD 9 0) (by decide) (tx_rw32 (by omega)) hM.1.2.1
    have ew9_11 : xw9_11.toInt = 0 := hxw9_11.elim (fun z => absurd z.2 h9) (fun z => z.1)
    refine wk_call (kd := 0) (i := 210) xd_aab442b3 rfl (wk_cal (as := [.inr (.inr (some 184)), .inr (.inl (Int64.ofNat 1835361652))]) (t := []) xl_56cf5afc rfl xn_94b640da xc_24159032 rfl rfl xv_bdbd9e17 rfl) (cm_C_mono (by omega) hCw9_11) ?_
    refine wk_istore_n xd_b59bcbf8 (by rw [xm_1e9e2bdd]; rfl) rfl ?_
    refine wk_aload_n xd_0194c502 rfl ?_
    refine aw_ldc2 xl_46279b00 rfl xd_7d99b0c1 ?_
    obtain ⟨xw10_19, hCw10_19, hxw10_19⟩ := mw_ok (w := w) (l := (Int64.ofNat 1752135026)) (c := tx_rw.getD 10 0) (by decide) (tx_rw32 (by omega)) hM.1.2.1
    have ew10_19 : xw10_19.toInt = 0 := hxw10_19.elim (fun z => absurd z.2 h10) (fun z => z.1)
    refine wk_call (kd := 0) (i := 210) xd_dd8b043b rfl (wk_cal (as := [.inr (.inr (some 184)), .inr (.inl (Int64.ofNat 1752135026))]) (t := []) xl_56cf5afc rfl xn_94b640da xc_24159032 rfl rfl xv_bdbd9e17 rfl) (cm_C_mono (by omega) hCw10_19) ?_
    refine wk_istore_n xd_0d2b064b (by rw [xm_1e9e2bdd]; rfl) rfl ?_
    refine wk_iload_n xd_94839e5d rfl ?_
    refine wk_if xd_87bcf479 (t := 47) rfl (fun h => absurd (aw_ne_t ew9_11 hb_z h) (by omega)) (fun _ => ?_)
    refine wk_iload_n xd_a9bf167e rfl ?_
    refine wk_if xd_e85b23b9 (t := 47) rfl (fun h => absurd (aw_ne_t ew10_19 hb_z h) (by omega)) (fun _ => ?_)
    refine wk_aload_n xd_d8f3a89e rfl ?_
    refine wk_iconst xd_3fcad7c1 ?_
    refine wk_aload_n xd_35657b77 rfl ?_
    refine wk_getR xf_8e66127e xd_1ddb74d7 ?_
    refine wk_iconst xd_74432001 ?_
    refine aw_iaload (i := 0) xf_31d67ad9 (show ((Int32.ofInt 0)).toInt = 0 from by decide) (by omega) (by omega) xd_71572e9f ?_
    obtain ⟨xq, wq, hCq, hq9⟩ := sr_look (w := w) (nm := nm) (a := 0) (b := 0) (k := (h 0).toNat) (va := (Int32.ofInt 0)) (vb := (w.1 186 0)) hM.1 (sr_n0 hR).1 (sr_n0 hR).2.1 (show ((Int32.ofInt 0)).toInt = 0 from by decide) ((show ((w.1 186 0)).toInt = (((h 0).toNat : Int) : Int) from (sr_n0 (rb_V_R (rb_V_rf w) hR)).2.2))
    refine wk_call (kd := 0) (i := 201) xd_1372f33b rfl (wk_cal (as := [.inr (.inr (some 184)), .inl (Int32.ofInt 0), .inl (w.1 186 0)]) (t := []) xl_d3d45156 rfl xn_77145da2 xc_6d225164 rfl rfl xv_5b2ff62c rfl) (cm_C_mono (by omega) hCq) ?_
    rcases hq9 with ⟨i8, elp, hxq, hgq, fq1, fq2⟩ | ⟨k8, q8, elp, hxq, hBq⟩
    · have hlb := ps_look_b elp
      have hMq : rb_M wq T n m p l := ⟨rm_L_fr (fun i => fq1 185 i (by omega)) (fun i hi => fq1 184 i (by omega)) (by rw [fq2]) (fun i => by rw [fq2]) hM.1, by rw [fq1 184 15 (by omega)]; exact hM.2.1, by rw [fq1 184 35 (by omega)]; exact hM.2.2⟩
      have hVq : rb_V w wq := fun k i a b => ⟨fq1 k i (by omega), by rw [fq2]⟩
      refine wk_if xd_177781bd (t := 47) rfl (fun _ => ?_) (fun h => absurd (aw_ne_f hxq hb_z h) (by omega))
      refine wk_aload_n xd_0421ed93 rfl ?_
      refine wk_getI xf_e9a2fb12 xd_30e2b169 ?_
      refine wk_bipush xd_be1b9839 ?_
      refine wk_icmp xd_85a27577 (t := 62) rfl (fun h53_4 => ?_) (fun h53_4 => ?_)
      · have h53_4 := aw_ne_t (a := ((l : Int) : Int)) (b := (40 : Int)) (show ((wq.1 184 35)).toInt = ((l : Int) : Int) from hMq.2.2) (show (((Int8.ofInt 40).toInt32)).toInt = 40 from by decide) h53_4
        refine wk_aload_n xd_46356adb rfl ?_
        refine wk_getR xf_fbe359c7 xd_44a7f25e ?_
        refine wk_iload_n xd_210a3195 rfl ?_
        refine wk_iconst xd_d20c42f6 ?_
        refine aw_iadd (a := (3 * (l : Int) : Int)) (b := (1 : Int)) (e := (3 * (l : Int) + 1 : Int)) xd_90fd4193 p1_ (show ((Int32.ofInt 1)).toInt = 1 from by decide) (by omega) (by omega) (by omega) (fun v6_ p6_ => ?_)
        refine wk_aload_n xd_306910c0 rfl ?_
        refine wk_getI xf_0beae9b4 xd_f05c20fa ?_
        refine aw_iastore (i := (1 + 3 * l)) xf_659780ae p6_ (by omega) (by omega) xd_a5ee5817 ?_
        have hV7_ := rb_V_tr hVq (rb_V_u (w := wq) (i := (1 + 3 * l)) (x := (wq.1 184 18)))
        have hM8_ := rb_u (i := (1 + 3 * l)) (x := (wq.1 184 18)) hMq
        refine wk_aload_n xd_2ada7d86 rfl ?_
        obtain ⟨wn9_, hCn9_, hSn9_, hMn9_⟩ := rb_next hM8_ hlb.2.2
        have hVn9_ := rb_V_tr hV7_ (rb_V_E (rm_E_S hSn9_))
        refine wk_call (kd := 0) (i := 179) xd_32c56d39 rfl (wk_cal (as := [.inr (.inr (some 184))]) (t := []) xl_9e9a7c95 rfl xn_00af7311 xc_b2cf5bb1 rfl rfl xv_e7aa8f3d rfl) (cm_C_mono (by omega) hCn9_) ?_
        refine wk_iload_n xd_0afc1f3e rfl ?_
        refine wk_if xd_9bac4aef (t := 120) rfl (fun _ => ?_) (fun h => absurd (aw_eq_f ew9_11 hb_z h) (by omega))
        refine wk_iload_n xd_cbf9d34f rfl ?_
        refine wk_if xd_f9d01cba (t := 157) rfl (fun _ => ?_) (fun h => absurd (aw_eq_f ew10_19 hb_z h) (by omega))
        refine wk_aload_n xd_91fbd52b rfl ?_
        refine aw_ldc2 xl_52b08207 rfl xd_f0dc8898 ?_
        obtain ⟨xw6_161, hCw6_161, hxw6_161⟩ := mw_ok (w := wn9_) (l := (Int64.ofNat 1700885619)) (c := tx_rw.getD 6 0) (by decide) (tx_rw32 (by omega)) hMn9_.1.2.1
        refine wk_call (kd := 0) (i := 210) xd_d727e482 rfl (wk_cal (as := [.inr (.inr (some 184)), .inr (.inl (Int64.ofNat 1700885619))]) (t := []) xl_56cf5afc rfl xn_94b640da xc_24159032 rfl rfl xv_bdbd9e17 rfl) (cm_C_mono (by omega) hCw6_161) ?_
        rcases hxw6_161 with ⟨hxw6_161, hu6⟩ | ⟨hxw6_161, hu6⟩
        · have hsu : 1 ≤ (tx_tk T n m (tx_tk T n m p).2.2.1).1 ∧ (tx_tk T n m (tx_tk T n m p).2.2.1).1 ≤ 3 := by have := hu6.1; omega
          refine wk_if xd_95d2ae28 (t := 171) rfl (fun h => absurd (aw_eq_t hxw6_161 hb_z h) (by omega)) (fun _ => ?_)
          refine wk_iconst xd_116dbb5a ?_
          refine wk_goto xd_feac2bdb (t := 200) rfl ?_
          refine wk_istore xd_740d9638 (by rw [xm_1e9e2bdd]; rfl) rfl ?_
          refine wk_iload xd_1a8dfb48 rfl ?_
          refine wk_if xd_45d1f509 (t := 213) rfl (fun _ => ?_) (fun h => absurd (aw_ge_f (show ((Int32.ofInt 0)).toInt = 0 from by decide) hb_z h) (by omega))
          refine wk_aload_n xd_cd4c5cb4 rfl ?_
          refine wk_getR xf_fbe359c7 xd_02a3f770 ?_
          refine wk_iload_n xd_aa7307fa rfl ?_
          refine wk_iload xd_cc939783 rfl ?_
          refine aw_iastore (i := (3 * l)) xf_659780ae p1_ (by omega) (by omega) xd_36577e91 ?_
          have hV14_ := rb_V_tr hVn9_ (rb_V_u (w := wn9_) (i := (3 * l)) (x := (Int32.ofInt 0)))
          have hM15_ := rb_u (i := (3 * l)) (x := (Int32.ofInt 0)) hMn9_
          refine wk_aload_n xd_78c42675 rfl ?_
          obtain ⟨wn16_, hCn16_, hSn16_, hMn16_⟩ := rb_next hM15_ hsu
          have hVn16_ := rb_V_tr hV14_ (rb_V_E (rm_E_S hSn16_))
          refine wk_call (kd := 0) (i := 179) xd_0433ed3f rfl (wk_cal (as := [.inr (.inr (some 184))]) (t := []) xl_9e9a7c95 rfl xn_00af7311 xc_b2cf5bb1 rfl rfl xv_e7aa8f3d rfl) (cm_C_mono (by omega) hCn16_) ?_
          refine wk_iload xd_5d3ab490 rfl ?_
          refine wk_if xd_f204df24 (t := 232) rfl (fun _ => ?_) (fun h => absurd (aw_le_f (show ((Int32.ofInt 0)).toInt = 0 from by decide) hb_z h) (by omega))
          refine wk_aload_n xd_8f047a6f rfl ?_
          refine wk_bipush xd_e1e360af ?_
          refine wk_aload_n xd_f9bde2c1 rfl ?_
          refine wk_getR xf_8e66127e xd_dd2ad02a ?_
          refine wk_iconst xd_248e0c05 ?_
          refine aw_iaload (i := 1) xf_31d67ad9 (show ((Int32.ofInt 1)).toInt = 1 from by decide) (by omega) (by omega) xd_1738af17 ?_
          have hRq := rb_V_R hVn16_ hR
          obtain ⟨xk, wk, hCk, hVk, hk⟩ := rb_take (w := wn16_) (nm := nm) (a := 6) (b := 6) (k := (h 1).toNat) (va := ((Int8.ofInt 6).toInt32)) (vb := (wn16_.1 186 1)) hMn16_ (sr_n1 hRq).1 (sr_n1 hRq).2.1 (show (((Int8.ofInt 6).toInt32)).toInt = 6 from by decide) ((show ((wn16_.1 186 1)).toInt = (((h 1).toNat : Int) : Int) from (sr_n1 (rb_V_R hVn16_ hR)).2.2))
          have hVka := rb_V_tr hVn16_ hVk
          refine wk_call (kd := 0) (i := 229) xd_3f71485d rfl (wk_cal (as := [.inr (.inr (some 184)), .inl ((Int8.ofInt 6).toInt32), .inl (wn16_.1 186 1)]) (t := []) xl_78f6dfdc rfl xn_fc82bc17 xc_e83768f1 rfl rfl xv_3626efb9 rfl) (cm_C_mono (by omega) hCk) ?_
          rcases hk with ⟨i9, el, hxk, hMk⟩ | ⟨k9, q9, el, hxk, hBk⟩
          · skip
            refine wk_if xd_fe2f6866 (t := 249) rfl (fun _ => ?_) (fun h => absurd (aw_ne_f hxk hb_z h) (by omega))
            refine wk_aload_n xd_c8403703 rfl ?_
            refine wk_getR xf_fbe359c7 xd_d38a2b55 ?_
            refine wk_iload_n xd_c3293836 rfl ?_
            refine wk_iconst xd_7c2ed56f ?_
            refine aw_iadd (a := (3 * (l : Int) : Int)) (b := (2 : Int)) (e := (3 * (l : Int) + 2 : Int)) xd_21ef0905 p1_ (show ((Int32.ofInt 2)).toInt = 2 from by decide) (by omega) (by omega) (by omega) (fun v19_ p19_ => ?_)
            refine wk_aload_n xd_3f6589ac rfl ?_
            refine wk_getI xf_0beae9b4 xd_23015934 ?_
            refine aw_iastore (i := (2 + 3 * l)) xf_659780ae p19_ (by omega) (by omega) xd_6af6ed91 ?_
            have hV20_ := rb_V_tr hVka (rb_V_u (w := wk) (i := (2 + 3 * l)) (x := (wk.1 184 18)))
            have hM21_ := rb_u (i := (2 + 3 * l)) (x := (wk.1 184 18)) hMk
            refine wk_iconst xd_06e26142 ?_
            exact wk_ireturn xd_290f1f6d xr_453fe782 wk_z1 ⟨_, _, rfl, hV20_, rb_P_y ((bk_lpy h9 h10 elp (by omega)).trans ((bk_a6 hu6).trans (bk_n_y el))) (by decide) hM21_⟩
          · skip
            refine wk_if xd_fe2f6866 (t := 249) rfl (fun h => absurd (aw_ne_t hxk hb_z h) (by omega)) (fun _ => ?_)
            refine wk_iconst xd_a4e5c19b ?_
            exact wk_ireturn xd_c669dee6 xr_453fe782 wk_z0 ⟨_, _, rfl, hVka, rb_P_e ((bk_lpy h9 h10 elp (by omega)).trans ((bk_a6 hu6).trans (bk_n_e el))) (by decide) hBk⟩
        · skip
          refine wk_if xd_95d2ae28 (t := 171) rfl (fun _ => ?_) (fun h => absurd (aw_eq_f hxw6_161 hb_z h) (by omega))
          refine wk_aload_n xd_a50a6b5e rfl ?_
          refine aw_ldc2 xl_724f2c1a rfl xd_90a0c610 ?_
          obtain ⟨xw7_175, hCw7_175, hxw7_175⟩ := mw_ok (w := wn9_) (l := (Int64.ofNat 1634298995)) (c := tx_rw.getD 7 0) (by decide) (tx_rw32 (by omega)) hMn9_.1.2.1
          refine wk_call (kd := 0) (i := 210) xd_1d62426c rfl (wk_cal (as := [.inr (.inr (some 184)), .inr (.inl (Int64.ofNat 1634298995))]) (t := []) xl_56cf5afc rfl xn_94b640da xc_24159032 rfl rfl xv_bdbd9e17 rfl) (cm_C_mono (by omega) hCw7_175) ?_
          rcases hxw7_175 with ⟨hxw7_175, hu7⟩ | ⟨hxw7_175, hu7⟩
          · have hsu : 1 ≤ (tx_tk T n m (tx_tk T n m p).2.2.1).1 ∧ (tx_tk T n m (tx_tk T n m p).2.2.1).1 ≤ 3 := by have := hu7.1; omega
            refine wk_if xd_84e30e0b (t := 185) rfl (fun h => absurd (aw_eq_t hxw7_175 hb_z h) (by omega)) (fun _ => ?_)
            refine wk_iconst xd_b38ff936 ?_
            refine wk_goto xd_f350e6fa (t := 200) rfl ?_
            refine wk_istore xd_740d9638 (by rw [xm_1e9e2bdd]; rfl) rfl ?_
            refine wk_iload xd_1a8dfb48 rfl ?_
            refine wk_if xd_45d1f509 (t := 213) rfl (fun _ => ?_) (fun h => absurd (aw_ge_f (show ((Int32.ofInt 1)).toInt = 1 from by decide) hb_z h) (by omega))
            refine wk_aload_n xd_cd4c5cb4 rfl ?_
            refine wk_getR xf_fbe359c7 xd_02a3f770 ?_
            refine wk_iload_n xd_aa7307fa rfl ?_
            refine wk_iload xd_cc939783 rfl ?_
            refine aw_iastore (i := (3 * l)) xf_659780ae p1_ (by omega) (by omega) xd_36577e91 ?_
            have hV26_ := rb_V_tr hVn9_ (rb_V_u (w := wn9_) (i := (3 * l)) (x := (Int32.ofInt 1)))
            have hM27_ := rb_u (i := (3 * l)) (x := (Int32.ofInt 1)) hMn9_
            refine wk_aload_n xd_78c42675 rfl ?_
            obtain ⟨wn28_, hCn28_, hSn28_, hMn28_⟩ := rb_next hM27_ hsu
            have hVn28_ := rb_V_tr hV26_ (rb_V_E (rm_E_S hSn28_))
            refine wk_call (kd := 0) (i := 179) xd_0433ed3f rfl (wk_cal (as := [.inr (.inr (some 184))]) (t := []) xl_9e9a7c95 rfl xn_00af7311 xc_b2cf5bb1 rfl rfl xv_e7aa8f3d rfl) (cm_C_mono (by omega) hCn28_) ?_
            refine wk_iload xd_5d3ab490 rfl ?_
            refine wk_if xd_f204df24 (t := 232) rfl (fun h => absurd (aw_le_t (show ((Int32.ofInt 1)).toInt = 1 from by decide) hb_z h) (by omega)) (fun _ => ?_)
            refine wk_iconst xd_8ae54ec5 ?_
            exact wk_ireturn xd_19986a4e xr_453fe782 wk_z1 ⟨_, _, rfl, hVn28_, rb_P_y ((bk_lpy h9 h10 elp (by omega)).trans (bk_a78 hu6 (.inl hu7))) (by decide) hMn28_⟩
          · skip
            refine wk_if xd_84e30e0b (t := 185) rfl (fun _ => ?_) (fun h => absurd (aw_eq_f hxw7_175 hb_z h) (by omega))
            refine wk_aload_n xd_4643c104 rfl ?_
            refine aw_ldc2 xl_f10ca7f7 rfl xd_613d6430 ?_
            obtain ⟨xw8_189, hCw8_189, hxw8_189⟩ := mw_ok (w := wn9_) (l := (Int64.ofNat 469853168755)) (c := tx_rw.getD 8 0) (by decide) (tx_rw32 (by omega)) hMn9_.1.2.1
            refine wk_call (kd := 0) (i := 210) xd_0a438161 rfl (wk_cal (as := [.inr (.inr (some 184)), .inr (.inl (Int64.ofNat 469853168755))]) (t := []) xl_56cf5afc rfl xn_94b640da xc_24159032 rfl rfl xv_bdbd9e17 rfl) (cm_C_mono (by omega) hCw8_189) ?_
            rcases hxw8_189 with ⟨hxw8_189, hu8⟩ | ⟨hxw8_189, hu8⟩
            · have hsu : 1 ≤ (tx_tk T n m (tx_tk T n m p).2.2.1).1 ∧ (tx_tk T n m (tx_tk T n m p).2.2.1).1 ≤ 3 := by have := hu8.1; omega
              refine wk_if xd_ba5be395 (t := 199) rfl (fun h => absurd (aw_eq_t hxw8_189 hb_z h) (by omega)) (fun _ => ?_)
              refine wk_iconst xd_33fdfa32 ?_
              refine wk_goto xd_b5c6a4ee (t := 200) rfl ?_
              refine wk_istore xd_740d9638 (by rw [xm_1e9e2bdd]; rfl) rfl ?_
              refine wk_iload xd_1a8dfb48 rfl ?_
              refine wk_if xd_45d1f509 (t := 213) rfl (fun _ => ?_) (fun h => absurd (aw_ge_f (show ((Int32.ofInt 2)).toInt = 2 from by decide) hb_z h) (by omega))
              refine wk_aload_n xd_cd4c5cb4 rfl ?_
              refine wk_getR xf_fbe359c7 xd_02a3f770 ?_
              refine wk_iload_n xd_aa7307fa rfl ?_
              refine wk_iload xd_cc939783 rfl ?_
              refine aw_iastore (i := (3 * l)) xf_659780ae p1_ (by omega) (by omega) xd_36577e91 ?_
              have hV33_ := rb_V_tr hVn9_ (rb_V_u (w := wn9_) (i := (3 * l)) (x := (Int32.ofInt 2)))
              have hM34_ := rb_u (i := (3 * l)) (x := (Int32.ofInt 2)) hMn9_
              refine wk_aload_n xd_78c42675 rfl ?_
              obtain ⟨wn35_, hCn35_, hSn35_, hMn35_⟩ := rb_next hM34_ hsu
              have hVn35_ := rb_V_tr hV33_ (rb_V_E (rm_E_S hSn35_))
              refine wk_call (kd := 0) (i := 179) xd_0433ed3f rfl (wk_cal (as := [.inr (.inr (some 184))]) (t := []) xl_9e9a7c95 rfl xn_00af7311 xc_b2cf5bb1 rfl rfl xv_e7aa8f3d rfl) (cm_C_mono (by omega) hCn35_) ?_
              refine wk_iload xd_5d3ab490 rfl ?_
              refine wk_if xd_f204df24 (t := 232) rfl (fun h => absurd (aw_le_t (show ((Int32.ofInt 2)).toInt = 2 from by decide) hb_z h) (by omega)) (fun _ => ?_)
              refine wk_iconst xd_8ae54ec5 ?_
              exact wk_ireturn xd_19986a4e xr_453fe782 wk_z1 ⟨_, _, rfl, hVn35_, rb_P_y ((bk_lpy h9 h10 elp (by omega)).trans (bk_a78 hu6 (.inr hu8))) (by decide) hMn35_⟩
            · skip
              refine wk_if xd_ba5be395 (t := 199) rfl (fun _ => ?_) (fun h => absurd (aw_eq_f hxw8_189 hb_z h) (by omega))
              refine wk_iconst xd_7a2db423 ?_
              refine wk_istore xd_740d9638 (by rw [xm_1e9e2bdd]; rfl) rfl ?_
              refine wk_iload xd_1a8dfb48 rfl ?_
              refine wk_if xd_45d1f509 (t := 213) rfl (fun h => absurd (aw_ge_t (show ((Int32.ofInt (-1))).toInt = (-1) from by decide) hb_z h) (by omega)) (fun _ => ?_)
              refine wk_aload_n xd_4c359800 rfl ?_
              refine wk_iconst xd_454351f8 ?_
              have hBb := rm_bB (w := wn9_) (k := (Int32.ofInt 1)) (c := 1) (by decide) hMn9_.1.2.1.1
              have hVb : rb_V w (cm_u1 (cm_u1 wn9_ 184 15 (Int32.ofInt 1)) 184 16 ((cm_u1 wn9_ 184 15 (Int32.ofInt 1)).1 184 12)) := rb_V_tr hVn9_ (rb_V_E (rm_E_B hBb))
              refine wk_call (kd := 0) (i := 176) xd_dab10800 rfl (wk_cal (as := [.inr (.inr (some 184)), .inl (Int32.ofInt 1)]) (t := []) xl_e89d0391 rfl xn_f63023b8 xc_1907b494 rfl rfl xv_a1095a1b rfl) (cm_C_mono (by omega) (mb_ok (w := wn9_) (k := (Int32.ofInt 1)))) ?_
              exact wk_ireturn xd_4cd6212d xr_453fe782 wk_z0 ⟨_, _, rfl, hVb, rb_P_e ((bk_lpy h9 h10 elp (by omega)).trans (bk_an hu6 hu7 hu8)) (by decide) (cr_B_B hBb)⟩
      · have h53_4 := aw_ne_f (a := ((l : Int) : Int)) (b := (40 : Int)) (show ((wq.1 184 35)).toInt = ((l : Int) : Int) from hMq.2.2) (show (((Int8.ofInt 40).toInt32)).toInt = 40 from by decide) h53_4
        refine wk_aload_n xd_1e776260 rfl ?_
        refine wk_iconst xd_6c09f4bb ?_
        have hBb := rm_bB (w := wq) (k := (Int32.ofInt 4)) (c := 4) (by decide) hMq.1.2.1.1
        have hVb : rb_V w (cm_u1 (cm_u1 wq 184 15 (Int32.ofInt 4)) 184 16 ((cm_u1 wq 184 15 (Int32.ofInt 4)).1 184 12)) := rb_V_tr hVq (rb_V_E (rm_E_B hBb))
        refine wk_call (kd := 0) (i := 176) xd_ca17fae0 rfl (wk_cal (as := [.inr (.inr (some 184)), .inl (Int32.ofInt 4)]) (t := []) xl_e89d0391 rfl xn_f63023b8 xc_1907b494 rfl rfl xv_a1095a1b rfl) (cm_C_mono (by omega) (mb_ok (w := wq) (k := (Int32.ofInt 4)))) ?_
        exact wk_ireturn xd_f13fce2b xr_453fe782 wk_z0 ⟨_, _, rfl, hVb, rb_P_e (bk_lpf h9 h10 elp (by omega)) (by decide) (cr_B_B hBb)⟩
    · skip
      refine wk_if xd_177781bd (t := 47) rfl (fun h => absurd (aw_ne_t hxq hb_z h) (by omega)) (fun _ => ?_)
      refine wk_iconst xd_2caa712f ?_
      exact wk_ireturn xd_b68881f3 xr_453fe782 wk_z0 ⟨_, _, rfl, (rb_V_E (rm_E_B hBq)), rb_P_e (bk_lpe h9 h10 elp) (by decide) (cr_B_B hBq)⟩
  obtain ⟨oo, hC, x, w', rfl, a⟩ := h9
  exact ⟨x, w', hC, a⟩
theorem rl_ok {T : Nat → Int} {n m : Nat} {h : Nat → Int} {nm : Nat → Nat} {w : cm_W} {p l : Nat} (hR : mv_R w h nm) (hM : rb_M w T n m p l) (hl9 : l ≤ 40) : ∃ x w', cm_C 6 246 [.inr (.inr (some 184))] w (some (.inl x), w') ∧ rb_V w w' ∧ rb_P T n m l (bk_line T n m h nm l p) x w' := by
  by_cases h9 : ps_wd (tx_tk T n m p) 9
  · exact rl_9 hR hM hl9 h9
  · by_cases h10 : ps_wd (tx_tk T n m p) 10
    · exact rl_10 hR hM hl9 h9 h10
    · exact rl_p hR hM hl9 h9 h10
theorem rbo_lp {T : Nat → Int} {n m : Nat} {h : Nat → Int} {nm : Nat → Nat} {k : Int32} (Q : cm_O → Prop) : ∀ (f l p : Nat) (w : cm_W), (∀ (k9 q9 : Nat) (x : Int32) (w : cm_W), bk_text T n m h nm f l p = .inl (k9, q9) → cr_B w k9 q9 → Q (some (.inl x), w)) → (∀ (w : cm_W) (l9 : Nat), bk_text T n m h nm f l p = .inr l9 → l9 ≤ 40 → (w.1 184 15).toInt = 0 → (w.1 184 35).toInt = (l9 : Int) → (∀ i, i < l9 → jBr (fun j => w.1 188 j) i) → sv_w sg w → cm_X (cm_C 7) 96 83 [some (.inr (.inr (some 184))), some (.inl k), none, none] [] w Q) → f + l = 41 → l ≤ 40 → mv_R w h nm → rb_M w T n m p l → (∀ i, i < l → jBr (fun j => w.1 188 j) i) → sv_w sg w → cm_X (cm_C 7) 96 39 [some (.inr (.inr (some 184))), some (.inl k), none, none] [] w Q := by
  intro f
  induction f with
  | zero =>
    intro l p w hk1 hk2 hfl hl
    omega
  | succ f ih =>
    intro l p w hk1 hk2 hfl hl hR hM hrows hG
    obtain ⟨t0, ht00⟩ : ∃ t0 : Nat, t0 = (tx_tk T n m p).1 := ⟨_, rfl⟩
    have ht0 : (w.1 184 11).toInt = (t0 : Int) := by rw [rm_C_t hM.1.2.1, ht00]
    refine wk_aload_n xd_a454f6a8 rfl ?_
    refine wk_getI xf_32aa8f7b xd_69531934 ?_
    refine wk_if xd_729de104 (t := 83) rfl (fun h43_0 => ?_) (fun h43_0 => ?_)
    · have h43_0 := aw_eq_t (a := ((t0 : Int) : Int)) (b := (0 : Int)) (show ((w.1 184 11)).toInt = ((t0 : Int) : Int) from ht0) hb_z h43_0
      have h0 : (tx_tk T n m p).1 = 0 := by omega
      exact hk2 w l (bk_t0 h0) hl hM.2.1 hM.2.2 hrows hG
    · have h43_0 := aw_eq_f (a := ((t0 : Int) : Int)) (b := (0 : Int)) (show ((w.1 184 11)).toInt = ((t0 : Int) : Int) from ht0) hb_z h43_0
      have h0 : (tx_tk T n m p).1 ≠ 0 := by omega
      refine wk_aload_n xd_e34c1a57 rfl ?_
      obtain ⟨xl, wl, hCl, hGl, hFl, hl1, hl2⟩ := jbl_ok (w := w) hM.2.2 hG
      obtain ⟨xl9, wl9, hCl9, hVl, hPl⟩ := rl_ok hR hM hl
      obtain ⟨e9, rfl⟩ := Prod.mk.inj (cm_det hCl hCl9)
      cases e9
      refine wk_call (kd := 0) (i := 397) xd_8bfcd81c rfl (wk_cal (as := [.inr (.inr (some 184))]) (t := []) xl_abde85c4 rfl xn_654e1d40 xc_24fe0a6b rfl rfl xv_5b4c2490 rfl) (cm_C_mono (by decide) hCl) ?_
      rcases rb_P_c hPl with ⟨k9, q9, er, hxl, hBl⟩ | ⟨p9, er, hxl, hMl⟩
      · skip
        refine wk_if xd_eab1f309 (t := 62) rfl (fun _ => ?_) (fun h => absurd (aw_eq_f hxl hb_z h) (by omega))
        refine wk_bipush xd_56f36cdb ?_
        refine wk_aload_n xd_d7e105b1 rfl ?_
        refine wk_getI xf_d5a2ff81 xd_340abef4 ?_
        refine wk_isub xd_0658daf7 ?_
        exact wk_ireturn xd_f195aee1 xr_09d975e0 rfl (hk1 _ _ _ _ (bk_te h0 er) hBl)
      · rcases hl2 with h9 | ⟨-, hn40, hrow, -⟩
        · exact absurd h9 (by omega)
        refine wk_if xd_eab1f309 (t := 62) rfl (fun h => absurd (aw_eq_t hxl hb_z h) (by omega)) (fun _ => ?_)
        refine wk_aload_n xd_f9463437 rfl ?_
        refine wk_bipush xd_9f667fba ?_
        obtain ⟨xg, wg, hCg, hGg, hFg, hg1, hg2⟩ := jsg_ok (w := wl) (a := ((Int8.ofInt 59).toInt32)) hGl
        obtain ⟨xg9, wg9, hCg9, hg9⟩ := mg_ok (w := wl) (k := ((Int8.ofInt 59).toInt32)) (c := 59) (by decide) hMl.1
        obtain ⟨e8, rfl⟩ := Prod.mk.inj (cm_det hCg hCg9)
        cases e8
        have hng : (wg.1 184 35).toInt = (l : Int) := by rw [hFg 184 35 (by omega)]; exact hMl.2.2
        refine wk_call (kd := 0) (i := 241) xd_e168d8ad rfl (wk_cal (as := [.inr (.inr (some 184)), .inl ((Int8.ofInt 59).toInt32)]) (t := []) xl_bcc63218 rfl xn_436503f1 xc_bbf8acc6 rfl rfl xv_db1e3c86 rfl) (cm_C_mono (by decide) hCg) ?_
        rcases hg9 with ⟨hs1, hs2, hxg, hLg, hSg⟩ | ⟨hs1, hxg, hBg⟩
        · skip
          refine wk_if xd_7bbbe51e (t := 70) rfl (fun _ => ?_) (fun h => absurd (aw_ne_f hxg hb_z h) (by omega))
          refine wk_aload_n xd_5698c105 rfl ?_
          refine wk_dup_r xd_22ebcaf7 ?_
          refine wk_getI xf_7868cef4 xd_da50080a ?_
          refine wk_iconst xd_a5ddc66c ?_
          refine aw_iadd (a := ((l : Int) : Int)) (b := (1 : Int)) (e := ((l : Int) + 1 : Int)) xd_7f1ce15f (show ((wg.1 184 35)).toInt = ((l : Int) : Int) from hng) (show ((Int32.ofInt 1)).toInt = 1 from by decide) (by omega) (by omega) (by omega) (fun v5_ p5_ => ?_)
          refine wk_putI xf_ee2f1532 (fun ci => wk_fitI ci) xd_486561e7 ?_
          have hG6_ : sv_w sg (cm_u1 wg 184 35 v5_) := sv_w_u1 hGg (by rw [xg_e41a4c4a]; exact hb_mk (by rw [p5_]; omega) (by rw [p5_]; omega))
          refine wk_goto xd_bb9095d8 (t := 39) rfl ?_
          refine ih (l + 1) _ (cm_u1 wg 184 35 v5_) (fun k8 q8 x8 w8 e8 => hk1 k8 q8 x8 w8 (by rw [bk_ts h0 er ⟨hs1, hs2⟩]; exact e8)) (fun w8 l8 e8 => hk2 w8 l8 (by rw [bk_ts h0 er ⟨hs1, hs2⟩]; exact e8)) (by omega) (by omega) (mv_R_f2 (w := wl) (fun i _ => (hs_u1_ne (by omega)).trans (hSg 186 i (by omega)).1) (fun i _ => (hSg 189 i (by omega)).2) (rb_V_R hVl hR)) ⟨rm_L_fr (w := wg) (fun i => hs_u1_ne (by omega)) (fun i _ => hs_u1_ne (by omega)) rfl (fun i => rfl) hLg, by rw [hs_u1_ne (by omega), (hSg 184 15 (by omega)).1]; exact hMl.2.1, by rw [hs_u1_self, p5_]; omega⟩ (fun i hi => ?_) hG6_
          have ef : ∀ j, (cm_u1 wg 184 35 v5_).1 188 j = wl.1 188 j := fun j => (hs_u1_ne (by omega)).trans (hFg 188 j (by omega))
          by_cases e : i = l
          · rw [e]
            exact jBr_eq (fun j _ _ => (ef j).symm) hrow
          · have h3 := hrows i (by omega)
            exact jBr_eq (fun j h1 h2 => ((ef j).trans (hFl 188 j (by omega) (by omega))).symm) h3
        · skip
          refine wk_if xd_7bbbe51e (t := 70) rfl (fun h => absurd (aw_ne_t hxg hb_z h) (by omega)) (fun _ => ?_)
          refine wk_bipush xd_56f36cdb ?_
          refine wk_aload_n xd_d7e105b1 rfl ?_
          refine wk_getI xf_d5a2ff81 xd_340abef4 ?_
          refine wk_isub xd_0658daf7 ?_
          exact wk_ireturn xd_f195aee1 xr_09d975e0 rfl (hk1 _ _ _ _ (bk_tn h0 er hs1) (cr_B_B hBg))
def rbo_P : List Nat := [83, 84, 87, 88, 89, 90, 91, 94, 95, 98, 99, 100, 101, 104, 107, 108, 109, 110, 111, 112, 113, 116, 119, 120, 123, 124, 127, 128, 129, 130, 133, 134, 135, 136, 137, 138, 141, 142, 143, 144, 145, 146, 147, 148, 151, 152, 153, 154, 155, 156, 157, 160, 161, 162, 165, 166, 167, 170, 171, 172, 175, 176, 179, 180, 181, 182, 183, 184, 185, 188, 191, 192, 195, 196, 197, 200, 202, 203, 204, 205, 208, 209, 210, 213, 214, 215, 216, 219, 220, 221, 224, 225, 228, 229, 230, 233, 234, 237, 238, 239, 240, 242, 245, 246, 249, 251, 252, 255, 256, 257, 258, 259, 260, 261, 264, 265, 266, 267, 270, 273, 274, 277, 278, 281, 282, 283]
set_option maxRecDepth 100000 in
theorem rbo_Pk : rbo_P.all (u3_pc u3_Bf (u3_Af.map (fun z => z.1)) 96 rbo_P) = true := by
  rw [u3_ASf]
  decide +kernel
set_option maxRecDepth 100000 in
theorem u3_f184 {w w' : cm_W} (f : u3_F u3_Bf w w') : w'.1 184 15 = w.1 184 15 := f 184 _ 15 rfl (by decide +kernel)
set_option maxRecDepth 100000 in
theorem u3_f0 {w w' : cm_W} (f : u3_F u3_Bf w w') : w'.1 0 3 = w.1 0 3 := f 0 _ 3 rfl (by decide +kernel)
theorem rbo_st {F : Nat} {lv : cm_L} {w : cm_W} {o : cm_O} (h : cm_R (cm_C 7) 96 F 83 lv [] w o) : u3_F u3_Bf w o.2 := u3_run (by decide) (fun y2 h2 as w o h9 => u3_all (by decide) u3_hAf 7 y2 h2 as w o h9) rbo_Pk F 83 lv [] w o (by decide) h
theorem rbo_tl {w4 : cm_W} {k : Int32} {n : Nat} (hn : (w4.1 184 35).toInt = (n : Int)) (hn4 : n ≤ 40) (hrows : ∀ i, i < n → jBr (fun j => w4.1 188 j) i) (hG4 : sv_w sg w4) : cm_X (cm_C 7) 96 83 [some (.inr (.inr (some 184))), some (.inl k), none, none] [] w4 (fun o : cm_O => ∃ x w', o = (some (.inl x), w')) := by
  obtain ⟨w3, hw3⟩ : ∃ w3, w3 = w4 := ⟨_, rfl⟩
  have hF4 : jOf w3 w4 := by rw [hw3]; exact jOf_rf
  refine wk_aload_n xd_c368f3f1 rfl ?_
  obtain ⟨w5, hC5, hG5, hF5, hx5⟩ := xs_147_35fa1572 (w := w4) hG4
  refine wk_call (kd := 0) (i := 363) xd_0e9cdb04 rfl (wk_cal (as := [.inr (.inr (some 184))]) (t := []) xl_8437065c rfl xn_69c62e6d xc_86e865c1 rfl rfl xv_e66d8a7a rfl) (cm_C_mono (by omega) hC5) ?_
  have hf1_ : jOf w3 w5 := fun k i x1 x2 x3 x4 x5 x6 => ((hF5 k i (by omega)).1).trans (hF4 k i x1 x2 x3 x4 x5 x6)
  refine wk_iconst xd_c0edfdd4 ?_
  refine wk_istore_n xd_9adb64d9 (by rw [xm_048ee623]; rfl) rfl ?_
  refine jbo_b w5 k _ (fun w6 z6 hP6 hG6 => ?_) 4 0 _ w5 (by omega) (by decide) (fun _ _ _ => rfl) hG5
  have hf6 : jOf w3 w6 := fun k i x1 x2 x3 x4 x5 x6 => (hP6 k i x5).trans (hf1_ k i x1 x2 x3 x4 x5 x6)
  refine wk_iconst xd_968c326a ?_
  refine wk_istore_n xd_e27b8a09 (by rw [xm_048ee623]; rfl) rfl ?_
  refine wk_iconst xd_4b0ba8b0 ?_
  refine wk_istore_n xd_a89d0f09 (by rw [xm_048ee623]; rfl) rfl ?_
  exact jbo_c w3 k n hn4 _ (fun w7 x7 z7 hF7 hG7 => jbo_e w3 k x7 z7 w7 _ (fun x w9 _ _ => ⟨x, w9, rfl⟩) hF7 hG7) n 0 _ _ w6 (by omega) (by decide) (by rw [hP6 184 35 (by decide), (hF5 184 35 (by omega)).1]; exact hn) (fun q hq => by have h3 := hrows q hq; have ef : (fun j => w6.1 188 j) = (fun j => w4.1 188 j) := funext fun j => (hP6 188 j (by decide)).trans (hF5 188 j (by omega)).1; rw [ef]; exact h3) hf6 hG6
theorem rbk_ok {w : cm_W} {T : Nat → Int} {n : Nat} {h : Nat → Int} {nm : Nat → Nat} {k : Int32} (hT : ∀ j, j < 940 → (w.1 185 j &&& ((Int16.ofInt 255).toInt32)).toInt = T j) (hb : ∀ j, 0 ≤ T j ∧ T j ≤ 255) (hn : (w.1 184 2).toInt = (n : Int)) (hn9 : n ≤ 940) (hRw : ∀ k, k < 22 → w.2 190 k = Int64.ofNat (tx_F (tx_rw.getD k 0))) (hRm : mv_R w h nm) (hG : sv_w sg w) : ∃ x w', cm_C 8 96 [.inr (.inr (some 184)), .inl k] w (some (.inl x), w') ∧ ((¬ (k.toInt = 0 ∨ k.toInt = 1) ∧ w'.1 184 15 = w.1 184 15) ∨ ((k.toInt = 0 ∨ k.toInt = 1) ∧ ((∃ v, bk_text T n 400 h nm 41 0 0 = .inr v ∧ (w'.1 184 15).toInt = 0) ∨ (∃ k9 q9, bk_text T n 400 h nm 41 0 0 = .inl (k9, q9) ∧ (w'.1 184 15).toInt = (k9 : Int))))) := by
  have h9 : ∃ oo, cm_C (7 + 1) 96 [.inr (.inr (some 184)), .inl k] w oo ∧ (fun oo : cm_O => ∃ x w', oo = (some (.inl x), w') ∧ ((¬ (k.toInt = 0 ∨ k.toInt = 1) ∧ w'.1 184 15 = w.1 184 15) ∨ ((k.toInt = 0 ∨ k.toInt = 1) ∧ ((∃ v, bk_text T n 400 h nm 41 0 0 = .inr v ∧ (w'.1 184 15).toInt = 0) ∨ (∃ k9 q9, bk_text T n 400 h nm 41 0 0 = .inl (k9, q9) ∧ (w'.1 184 15).toInt = (k9 : Int)))))) oo := by
    refine wk_entry (by rw [xm_048ee623]; exact Nat.le_of_ble_eq_true rfl) ?_
    rw [show cm_ent 96 [.inr (.inr (some 184)), .inl k] = [some (.inr (.inr (some 184))), some (.inl k), none, none] from by unfold cm_ent; rw [xm_048ee623]; rfl]
    refine wk_aload_n xd_a648f997 rfl ?_
    refine wk_iconst xd_1bb7aa4c ?_
    refine wk_putI xf_a01198a8 (fun ci => wk_fitI ci) xd_7be192ce ?_
    refine wk_iload_n xd_5a04480d rfl ?_
    refine wk_iconst xd_7e6e940c ?_
    refine wk_iconst xd_5426d97c ?_
    obtain ⟨xi, hCi, hxi⟩ := jin_ok (cm_u1 w 184 0 (Int32.ofInt 0)) k (Int32.ofInt 0) (Int32.ofInt 1)
    rw [(show ((Int32.ofInt 0)).toInt = 0 from by decide), (show ((Int32.ofInt 1)).toInt = 1 from by decide)] at hxi
    refine wk_call (kd := 1) (i := 182) xd_e3f24d09 rfl (wk_cal (as := [.inl k, .inl (Int32.ofInt 0), .inl (Int32.ofInt 1)]) (t := []) xl_6db9d33b rfl xn_adc58d92 xc_a9508f83 rfl rfl rfl rfl) (cm_C_mono (by decide) hCi) ?_
    refine wk_if xd_8968bd52 (t := 18) rfl (fun h11_0 => ?_) (fun h11_0 => ?_)
    · have h11_0 := aw_ne_t (a := ((xi).toInt : Int)) (b := (0 : Int)) rfl hb_z h11_0
      refine wk_aload_n xd_e61cd073 rfl ?_
      refine wk_sipush xd_408409a9 ?_
      refine wk_call (kd := 0) (i := 232) xd_38c72314 rfl (wk_cal (as := [.inr (.inr (some 184)), .inl ((Int16.ofInt 400).toInt32)]) (t := []) xl_8422bd3b rfl xn_8a0f2cb7 xc_11bee548 rfl rfl xv_8b88ab9c rfl) (cm_C_mono (by omega) (mk_ok (w := (cm_u1 w 184 0 (Int32.ofInt 0))) (a := ((Int16.ofInt 400).toInt32)))) ?_
      refine wk_aload_n xd_2594713a rfl ?_
      refine wk_iconst xd_3aea09db ?_
      refine wk_putI xf_671255ee (fun ci => wk_fitI ci) xd_66c1c8cf ?_
      refine wk_aload_n xd_3f9e5f5a rfl ?_
      refine wk_iconst xd_c440dd4f ?_
      refine wk_putI xf_ee2f1532 (fun ci => wk_fitI ci) xd_e4ad3aeb ?_
      refine wk_aload_n xd_a4b1141d rfl ?_
      obtain ⟨u, hu⟩ : ∃ u, u = (cm_u1 (cm_u1 (cm_u1 (cm_u1 (cm_u1 (cm_u1 (cm_u1 w 184 0 (Int32.ofInt 0)) 184 3 ((cm_u1 w 184 0 (Int32.ofInt 0)).1 184 2)) 184 2 (Int32.ofInt 0)) 184 4 (Int32.ofInt 0)) 184 5 ((Int16.ofInt 400).toInt32)) 184 15 (Int32.ofInt 0)) 184 35 (Int32.ofInt 0)) := ⟨_, rfl⟩
      rw [← hu]
      have hufr : ∀ k i, ¬ (k = 184 ∧ (i = 0 ∨ (2 ≤ i ∧ i ≤ 5) ∨ i = 15 ∨ i = 35)) → u.1 k i = w.1 k i := fun k i hk => by rw [hu, hs_u1_ne (by omega), hs_u1_ne (by omega), hs_u1_ne (by omega), hs_u1_ne (by omega), hs_u1_ne (by omega), hs_u1_ne (by omega), hs_u1_ne (by omega)]
      have hu2 : u.2 = w.2 := by rw [hu]; rfl
      have hu3 : (u.1 184 3).toInt = (n : Int) := by rw [hu]; exact ((show (((cm_u1 (cm_u1 (cm_u1 (cm_u1 (cm_u1 (cm_u1 (cm_u1 w 184 0 (Int32.ofInt 0)) 184 3 ((cm_u1 w 184 0 (Int32.ofInt 0)).1 184 2)) 184 2 (Int32.ofInt 0)) 184 4 (Int32.ofInt 0)) 184 5 ((Int16.ofInt 400).toInt32)) 184 15 (Int32.ofInt 0)) 184 35 (Int32.ofInt 0)).1 184 3)).toInt = ((n : Int) : Int) from hn).trans (by omega))
      have hu4 : (u.1 184 4).toInt = ((0 : Nat) : Int) := by rw [hu]; exact ((show (((cm_u1 (cm_u1 (cm_u1 (cm_u1 (cm_u1 (cm_u1 (cm_u1 w 184 0 (Int32.ofInt 0)) 184 3 ((cm_u1 w 184 0 (Int32.ofInt 0)).1 184 2)) 184 2 (Int32.ofInt 0)) 184 4 (Int32.ofInt 0)) 184 5 ((Int16.ofInt 400).toInt32)) 184 15 (Int32.ofInt 0)) 184 35 (Int32.ofInt 0)).1 184 4)).toInt = (0 : Int) from (show ((Int32.ofInt 0)).toInt = 0 from by decide)).trans (by omega))
      have hu5 : (u.1 184 5).toInt = ((400 : Nat) : Int) := by rw [hu]; exact ((show (((cm_u1 (cm_u1 (cm_u1 (cm_u1 (cm_u1 (cm_u1 (cm_u1 w 184 0 (Int32.ofInt 0)) 184 3 ((cm_u1 w 184 0 (Int32.ofInt 0)).1 184 2)) 184 2 (Int32.ofInt 0)) 184 4 (Int32.ofInt 0)) 184 5 ((Int16.ofInt 400).toInt32)) 184 15 (Int32.ofInt 0)) 184 35 (Int32.ofInt 0)).1 184 5)).toInt = (400 : Int) from (show (((Int16.ofInt 400).toInt32)).toInt = 400 from by decide)).trans (by omega))
      have hu15 : (u.1 184 15).toInt = 0 := by rw [hu]; exact ((show (((cm_u1 (cm_u1 (cm_u1 (cm_u1 (cm_u1 (cm_u1 (cm_u1 w 184 0 (Int32.ofInt 0)) 184 3 ((cm_u1 w 184 0 (Int32.ofInt 0)).1 184 2)) 184 2 (Int32.ofInt 0)) 184 4 (Int32.ofInt 0)) 184 5 ((Int16.ofInt 400).toInt32)) 184 15 (Int32.ofInt 0)) 184 35 (Int32.ofInt 0)).1 184 15)).toInt = (0 : Int) from (show ((Int32.ofInt 0)).toInt = 0 from by decide)).trans (by omega))
      have hu35 : (u.1 184 35).toInt = ((0 : Nat) : Int) := by rw [hu]; exact ((show (((cm_u1 (cm_u1 (cm_u1 (cm_u1 (cm_u1 (cm_u1 (cm_u1 w 184 0 (Int32.ofInt 0)) 184 3 ((cm_u1 w 184 0 (Int32.ofInt 0)).1 184 2)) 184 2 (Int32.ofInt 0)) 184 4 (Int32.ofInt 0)) 184 5 ((Int16.ofInt 400).toInt32)) 184 15 (Int32.ofInt 0)) 184 35 (Int32.ofInt 0)).1 184 35)).toInt = (0 : Int) from (show ((Int32.ofInt 0)).toInt = 0 from by decide)).trans (by omega))
      have hGu : sv_w sg u := by rw [hu]; exact sv_w_u1 (sv_w_u1 (sv_w_u1 (sv_w_u1 (sv_w_u1 (sv_w_u1 (sv_w_u1 (hG) (by rw [xg_59f145a5]; exact hb_mk (by have e9 := (show ((Int32.ofInt 0)).toInt = 0 from by decide); omega) (by have e9 := (show ((Int32.ofInt 0)).toInt = 0 from by decide); omega))) (by rw [xg_ebbbf959]; exact hb_mk (by have e9 := hn; show _ ≤ (w.1 184 2).toInt; omega) (by have e9 := hn; show (w.1 184 2).toInt ≤ _; omega))) (by rw [xg_ea0e0444]; exact hb_mk (by have e9 := (show ((Int32.ofInt 0)).toInt = 0 from by decide); omega) (by have e9 := (show ((Int32.ofInt 0)).toInt = 0 from by decide); omega))) (by rw [xg_efb20a0a]; exact hb_mk (by have e9 := (show ((Int32.ofInt 0)).toInt = 0 from by decide); omega) (by have e9 := (show ((Int32.ofInt 0)).toInt = 0 from by decide); omega))) (by rw [xg_ee07f717]; exact hb_mk (by have e9 := (show (((Int16.ofInt 400).toInt32)).toInt = 400 from by decide); omega) (by have e9 := (show (((Int16.ofInt 400).toInt32)).toInt = 400 from by decide); omega))) (by rw [xg_68f72906]; exact sv_in_top _)) (by rw [xg_e41a4c4a]; exact hb_mk (by have e9 := (show ((Int32.ofInt 0)).toInt = 0 from by decide); omega) (by have e9 := (show ((Int32.ofInt 0)).toInt = 0 from by decide); omega))
      have hTu : rm_T u T n 400 := rm_T_fr (w := w) (fun i => hufr 185 i (by omega)) hu3 hu5 (fun i => by rw [hu2]) hT hb hn9 (by omega) hRw
      obtain ⟨u1, hCu, hSu, hRu⟩ := mn_ok (w := u) (p := 0) hTu hu4 (by omega)
      obtain ⟨u19, hCu9, hGu1, -⟩ := xs_129_f2ad130c (w := u) hGu
      obtain rfl : u1 = u19 := (Prod.mk.inj (cm_det hCu hCu9)).2
      have hM0 : rb_M u1 T n 400 0 0 := ⟨⟨rm_T_S hTu hSu, hRu, Nat.zero_le _⟩, by rw [(hSu 184 15 (by omega)).1]; exact hu15, by rw [(hSu 184 35 (by omega)).1]; exact hu35⟩
      have hR1 : mv_R u1 h nm := mv_R_f2 (w := w) (fun i _ => ((hSu 186 i (by omega)).1).trans (hufr 186 i (by omega))) (fun i _ => ((hSu 189 i (by omega)).2).trans (by rw [hu2])) hRm
      refine wk_call (kd := 0) (i := 179) xd_2f2bec60 rfl (wk_cal (as := [.inr (.inr (some 184))]) (t := []) xl_013e267d rfl xn_00af7311 xc_b2cf5bb1 rfl rfl xv_e7aa8f3d rfl) (cm_C_mono (by omega) hCu) ?_
      have hk01 : k.toInt = 0 ∨ k.toInt = 1 := by omega
      refine rbo_lp (T := T) (n := n) (m := 400) (h := h) (nm := nm) _ 41 0 0 u1 (fun k9 q9 x w9 e9 hB => ⟨x, w9, rfl, .inr ⟨hk01, .inr ⟨k9, q9, e9, hB.1⟩⟩⟩) (fun w9 l9 e9 hl9 h15 h35 hrows hG9 => ?_) (by omega) (by omega) hR1 hM0 (fun i hi => absurd hi (Nat.not_lt_zero i)) hGu1
      refine cm_X_and (rbo_tl h35 hl9 hrows hG9) (fun F o h8 => u3_f184 (rbo_st h8)) (fun o h8 h7 => ?_)
      obtain ⟨x, w8, rfl⟩ := h8
      refine ⟨x, w8, rfl, .inr ⟨hk01, .inl ⟨l9, e9, ?_⟩⟩⟩
      rw [show w8.1 184 15 = w9.1 184 15 from h7]
      exact h15
    · have h11_0 := aw_ne_f (a := ((xi).toInt : Int)) (b := (0 : Int)) rfl hb_z h11_0
      refine wk_sipush xd_f2e1666b ?_
      exact wk_ireturn xd_47839c11 xr_09d975e0 rfl ⟨_, _, rfl, .inl ⟨by omega, hs_u1_ne (by omega)⟩⟩
  obtain ⟨oo, hC, x, w', rfl, a⟩ := h9
  exact ⟨x, w', hC, a⟩

/-! ## the reference's valley (wip/p4/gen9vq.py) -/
/-- the valley as the reference holds it -/
def mv_R (w : cm_W) (h : Nat → Int) (nm : Nat → Nat) : Prop := ps_Q tx_F (fun j => (w.1 186 j).toInt) (fun j => w.2 189 j) h nm
/-- and the count of lines -/
def cr_W (w w' : cm_W) : Prop := ∀ k i, ¬ (k = 184 ∧ (i = 4 ∨ (11 ≤ i ∧ i ≤ 20))) → k ≠ 187 → ¬ (k = 189 ∧ 16 ≤ i) → w'.1 k i = w.1 k i ∧ w'.2 k i = w.2 k i
theorem cr_W_rf (w : cm_W) : cr_W w w := fun _ _ _ _ _ => ⟨rfl, rfl⟩
theorem cr_W_tr {w w1 w2 : cm_W} (h1 : cr_W w w1) (h2 : cr_W w1 w2) : cr_W w w2 := fun k i a b c => ⟨(h2 k i a b c).1.trans (h1 k i a b c).1, (h2 k i a b c).2.trans (h1 k i a b c).2⟩
theorem cr_W_V {w w' : cm_W} (h : cr_V w w') : cr_W w w' := fun k i a b c => h k i (by omega) b c
theorem cr_W_u {w w1 : cm_W} {i : Nat} {x : Int32} (h : cr_W w w1) (hi : 11 ≤ i ∧ i ≤ 20) : cr_W w (cm_u1 w1 184 i x) := fun k j a b c => ⟨(hs_u1_ne (by omega)).trans (h k j a b c).1, (h k j a b c).2⟩
theorem cr_W_h {w w1 : cm_W} {i : Nat} {x : Int32} (h : cr_W w w1) : cr_W w (cm_u1 w1 187 i x) := fun k j a b c => ⟨(hs_u1_ne (by omega)).trans (h k j a b c).1, (h k j a b c).2⟩
theorem cr_Q {w : cm_W} {T : Nat → Int} {n m p : Nat} {f : Nat → Int} {g : Nat → Int64} {a0 b0 : Int} {h : Nat → Int} {nm : Nat → Nat} (hM : cr_M w T n m p f g a0 b0) (hQ : ps_Q tx_F f g h nm) : ps_Q tx_F (fun j => (w.1 187 j).toInt) (fun j => w.2 189 (16 + j)) h nm := by
  obtain ⟨-, -, h3, h4, -⟩ := hM
  subst h3
  subst h4
  exact hQ
theorem mv_ret {w : cm_W} {k q : Nat} (h : cr_B w k q) : ((Int32.ofInt (-1)) - (w.1 184 16)) = Int32.ofInt (-1 - (q : Int)) := by
  rw [ps_ofInt h.2]
  rw [Int32.ofInt_sub]
theorem cr_al {w0 : cm_W} {T : Nat → Int} {n : Nat} (Q : cm_O → Prop) (hk : ∀ (w : cm_W) (l : Nat) (h : Nat → Int) (nm : Nat → Nat) (lk : Option cm_V), ps_all T n = .inr (l, h, nm) → cr_W w0 w → (w.1 184 15).toInt = 0 → (w.1 184 19).toInt = (l : Int) → l ≤ 900 → ps_Q tx_F (fun j => (w.1 187 j).toInt) (fun j => w.2 189 (16 + j)) h nm → cm_X (cm_C 7) 150 103 [some (.inr (.inr (some 184))), lk] [] w Q)
    (hb : ∀ (x : Int32) (w : cm_W) (k q : Nat), ps_all T n = .inl (k, q) → cr_W w0 w → cr_B w k q → x = Int32.ofInt (-1 - (q : Int)) → Q (some (.inl x), w)) : ∀ (d l : Nat) (lk : Option cm_V) (w : cm_W) {p : Nat} {f : Nat → Int} {g : Nat → Int64} {a0 b0 : Int} {h : Nat → Int} {nm : Nat → Nat}, d + l = 901 → (w.1 184 19).toInt = (l : Int) → l ≤ p → p ≤ 900 → ps_all T n = ps_text T n 900 d l (h, nm, a0, b0, p) → cr_W w0 w → cr_M w T n 900 p f g a0 b0 → ps_Q tx_F f g h nm → cm_X (cm_C 7) 150 60 [some (.inr (.inr (some 184))), lk] [] w Q := by
  intro d
  induction d with
  | zero =>
    intro l lk w p f g a0 b0 h nm hi hl9 hlp hp9 hE hV hM hQ
    exfalso
    omega
  | succ d ih =>
    intro l lk w p f g a0 b0 h nm hi hl9 hlp hp9 hE hV hM hQ
    refine wk_aload_n xd_b3477284 rfl ?_
    refine wk_getI xf_3490e2a6 xd_04a9d10c ?_
    refine wk_if xd_f6beac5c (t := 103) rfl (fun h64_0 => ?_) (fun h64_0 => ?_)
    · have h64_0 := aw_eq_t (a := (((tx_tk T n 900 p).1 : Int) : Int)) (b := (0 : Int)) (show ((w.1 184 11)).toInt = (((tx_tk T n 900 p).1 : Int) : Int) from hM.1.2.1.2.1) hb_z h64_0
      have hn0 : (tx_tk T n 900 p).1 = 0 := by have h9 := h64_0; omega
      exact hk w l h nm lk (hE.trans (ps_text_end hn0)) hV hM.2.1 hl9 (by omega) (cr_Q hM hQ)
    · have h64_0 := aw_eq_f (a := (((tx_tk T n 900 p).1 : Int) : Int)) (b := (0 : Int)) (show ((w.1 184 11)).toInt = (((tx_tk T n 900 p).1 : Int) : Int) from hM.1.2.1.2.1) hb_z h64_0
      have hn0 : (tx_tk T n 900 p).1 ≠ 0 := by have h9 := h64_0; omega
      refine wk_aload_n xd_c5feea2a rfl ?_
      obtain ⟨xL, wL, hCL, hVL, hPL⟩ := cr_line hM hQ
      have hVLa := cr_W_tr hV (cr_W_V hVL)
      refine wk_call (kd := 0) (i := 238) xd_15878533 rfl (wk_cal (as := [.inr (.inr (some 184))]) (t := []) xl_f2e3396a rfl xn_2b3ae09e xc_a9bb15da rfl rfl xv_dbf204f5 rfl) (cm_C_mono (by omega) hCL) ?_
      cases hl : ps_line T n 900 h nm a0 b0 p with
      | inl e =>
        rw [hl] at hPL
        obtain ⟨hxL, hBL⟩ := hPL
        refine wk_if xd_c2deb15f (t := 83) rfl (fun _ => ?_) (fun h => absurd (aw_eq_f hxL hb_z h) (by omega))
        refine wk_iconst xd_7c7702df ?_
        refine wk_aload_n xd_d12bbdf9 rfl ?_
        refine wk_getI xf_d398925c xd_1d2e6d94 ?_
        refine wk_isub xd_0297e700 ?_
        exact wk_ireturn xd_202d5c2f xr_ef4a27ad rfl (hb _ _ _ _ (hE.trans (ps_text_e1 hn0 hl)) hVLa hBL (mv_ret hBL))
      | inr s =>
        rw [hl] at hPL
        obtain ⟨hxL, f2, g2, hM2, hQ2⟩ := hPL
        have hm2 := ps_line_m hM.1.2.2 hl
        refine wk_if xd_c2deb15f (t := 83) rfl (fun h => absurd (aw_eq_t hxL hb_z h) (by omega)) (fun _ => ?_)
        refine wk_aload_n xd_323eb630 rfl ?_
        refine wk_bipush xd_b9d48fc7 ?_
        obtain ⟨xS, wS, hCS, hRS⟩ := mg_ok (w := wL) (k := ((Int8.ofInt 59).toInt32)) (c := 59) (by decide) hM2.1
        refine wk_call (kd := 0) (i := 241) xd_abc00eef rfl (wk_cal (as := [.inr (.inr (some 184)), .inl ((Int8.ofInt 59).toInt32)]) (t := []) xl_5311e272 rfl xn_436503f1 xc_bbf8acc6 rfl rfl xv_db1e3c86 rfl) (cm_C_mono (by omega) hCS) ?_
        rcases hRS with ⟨h3, h59, hxS, hLS, hSS⟩ | ⟨hno, hxS, hBS⟩
        · have hMS := cr_M_E hM2 (rm_E_S hSS) (hSS 184 15 (by omega)).1 hLS
          have hL19 : wL.1 184 19 = w.1 184 19 := (hVL 184 19 (by omega) (by omega) (by omega)).1
          have hlS : (wS.1 184 19).toInt = (l : Int) := by rw [(hSS 184 19 (by omega)).1, hL19]; exact hl9
          refine wk_if xd_a59043c9 (t := 90) rfl (fun _ => ?_) (fun h => absurd (aw_ne_f hxS hb_z h) (by omega))
          refine wk_aload_n xd_5052794d rfl ?_
          refine wk_dup_r xd_36f02871 ?_
          refine wk_getI xf_7ec374f2 xd_c9f8da08 ?_
          refine wk_iconst xd_d9d09129 ?_
          refine aw_iadd (a := ((l : Int) : Int)) (b := (1 : Int)) (e := ((l : Int) + 1 : Int)) xd_7bd3dca8 (show ((wS.1 184 19)).toInt = ((l : Int) : Int) from hlS) (show ((Int32.ofInt 1)).toInt = 1 from by decide) (by omega) (by omega) (by omega) (fun v5_ p5_ => ?_)
          refine wk_putI xf_0c5254ac (fun ci => wk_fitI ci) xd_5bcdb3e5 ?_
          refine wk_goto xd_9f81a0d9 (t := 60) rfl ?_
          have hb3 := tx_tk_b (m := 900) (T := T) hM2.1.2.2 ⟨by rw [h3]; omega, by rw [h3]; omega⟩
          have hb4 := tx_sign_b h3
          exact ih (l + 1) lk _ (by omega) (by rw [hs_u1_self]; omega) (by omega) (by omega) (hE.trans (ps_text_go hn0 hl ⟨h3, h59⟩)) (cr_W_u (i := 19) (x := v5_) (cr_W_tr hVLa (cr_W_V (cr_V_E (rm_E_S hSS)))) (by omega)) (cr_M_u (i := 19) (x := v5_) hMS (by omega)) hQ2
        · skip
          refine wk_if xd_a59043c9 (t := 90) rfl (fun h => absurd (aw_ne_t hxS hb_z h) (by omega)) (fun _ => ?_)
          refine wk_iconst xd_7c7702df ?_
          refine wk_aload_n xd_d12bbdf9 rfl ?_
          refine wk_getI xf_d398925c xd_1d2e6d94 ?_
          refine wk_isub xd_0297e700 ?_
          exact wk_ireturn xd_202d5c2f xr_ef4a27ad rfl (hb _ _ _ _ (hE.trans (ps_text_e2 hn0 hl hno)) (cr_W_tr hVLa (cr_W_V (cr_V_E (rm_E_B hBS)))) (cr_B_B hBS) (mv_ret (cr_B_B hBS)))

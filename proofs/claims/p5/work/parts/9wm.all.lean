/-! ## the pure reader goes on (wip/p4/gen9vm.py) -/
section PSM
variable {T : Nat → Int} {n m : Nat} {h : Nat → Int} {nm : Nat → Nat} {a b : Int} {p : Nat}
theorem ps_num_s {t : Nat × Nat × Nat × Int × Nat} {lo hi : Int} (h : tx_num t lo hi = 0) : t.1 = 2 := by
  unfold tx_num at h
  split at h
  · assumption
  · cases h
theorem ps_nums_m : ∀ (l : List (Nat × Int × Int)) (h : Nat → Int) (p : Nat) (z : (Nat → Int) × Nat), p ≤ n → ps_nums T n m l h p = .inr z → p ≤ z.2 ∧ z.2 ≤ n := by
  intro l
  induction l with
  | nil =>
    intro h p z hp he
    cases he
    exact ⟨Nat.le_refl p, hp⟩
  | cons e r ih =>
    intro h p z hp he
    unfold ps_nums at he
    split at he
    · rename_i hz
      have hb := tx_tk_b (m := m) (T := T) hp (by rw [ps_num_s hz]; omega)
      have g := ih _ _ z hb.2.1 he
      omega
    · cases he
theorem ps_fresh_m {c q : Nat} (hp : p ≤ n) (he : ps_fresh T n m h nm p = .inr (c, q)) : p < q ∧ q ≤ n := by
  unfold ps_fresh at he
  split at he
  · rename_i h1
    split at he
    · cases he
    · cases he
      have hb := tx_tk_b (m := m) (T := T) hp (by rw [h1.1]; omega)
      exact ⟨hb.1, hb.2.1⟩
  · cases he
theorem ps_look_m {bb k : Nat} {i : Int} (hp : p ≤ n) (he : ps_look T n m nm bb k p = .inr i) : p < (tx_tk T n m p).2.2.1 ∧ (tx_tk T n m p).2.2.1 ≤ n := by
  have h1 := ps_look_b he
  have hb := tx_tk_b (m := m) (T := T) hp h1.2.2
  exact ⟨hb.1, hb.2.1⟩
theorem ps_mt_m {k : Nat} : ∀ (d : Nat) (s : Int32) (p : Nat) (z : Int32 × Nat), p ≤ n → ps_mt T n m nm k d s p = .inr z → p ≤ z.2 ∧ z.2 ≤ n := by
  intro d
  induction d with
  | zero =>
    intro s p z _ he
    cases he
  | succ d ih =>
    intro s p z hp he
    by_cases h1 : s ≠ 0 ∧ ps_sg T n m p
    · rw [ps_mt_end h1.1 h1.2] at he
      cases he
      exact ⟨Nat.le_refl p, hp⟩
    · cases hl : ps_look T n m nm 0 k p with
      | inl e =>
        rw [ps_mt_e1 h1 hl] at he
        cases he
      | inr i =>
        have g := ps_look_m hp hl
        by_cases h2 : ps_bt s (Int32.ofInt i) = 0
        · rw [ps_mt_go h1 hl h2] at he
          have g2 := ih _ _ z g.2 he
          omega
        · rw [ps_mt_e2 h1 hl h2] at he
          cases he
theorem ps_end_m {c : Nat} {v : Int} {r : (Nat × Nat) ⊕ ((Nat → Int) × Nat)} {s : ps_St} (he : ps_end nm a b c v r = .inr s) : ∃ z, r = .inr z ∧ s.2.2.2.2 = z.2 := by
  cases r with
  | inl e => cases he
  | inr z =>
    cases he
    exact ⟨z, rfl, rfl⟩
theorem ps_line_m {s : ps_St} (hp : p ≤ n) (he : ps_line T n m h nm a b p = .inr s) : p < s.2.2.2.2 ∧ s.2.2.2.2 ≤ n := by
  have hw : ∀ k, ps_wd (tx_tk T n m p) k → p < (tx_tk T n m p).2.2.1 ∧ (tx_tk T n m p).2.2.1 ≤ n := fun k hk => by
    have hb := tx_tk_b (m := m) (T := T) hp (by rw [hk.1]; omega)
    exact ⟨hb.1, hb.2.1⟩
  by_cases h0 : ps_wd (tx_tk T n m p) 0
  · have g := hw 0 h0
    rw [ps_line_0 h0] at he
    by_cases c : a = 0
    · cases hl : ps_nums T n m [(4, 1, 20)] h (tx_tk T n m p).2.2.1 with
      | inl e =>
        rw [ps_span_e c hl] at he
        cases he
      | inr z =>
        rw [ps_span_n c hl] at he
        cases he
        have g2 := ps_nums_m _ _ _ z g.2 hl
        exact ⟨Nat.lt_of_lt_of_le g.1 g2.1, g2.2⟩
    · rw [ps_span_f c] at he
      cases he
  by_cases h1 : ps_wd (tx_tk T n m p) 1
  · have g := hw 1 h1
    rw [ps_line_1 h1] at he
    by_cases c : b = 0
    · cases hl : ps_nums T n m [(5, 0, 399), (6, 1, 200)] h (tx_tk T n m p).2.2.1 with
      | inl e =>
        rw [ps_wint_e c hl] at he
        cases he
      | inr z =>
        rw [ps_wint_n c hl] at he
        cases he
        have g2 := ps_nums_m _ _ _ z g.2 hl
        exact ⟨Nat.lt_of_lt_of_le g.1 g2.1, g2.2⟩
    · rw [ps_wint_f c] at he
      cases he
  by_cases h2 : ps_wd (tx_tk T n m p) 2
  · have g := hw 2 h2
    rw [ps_line_2 h2] at he
    by_cases c : h 0 < 6
    · cases hl : ps_fresh T n m h nm (tx_tk T n m p).2.2.1 with
      | inl e =>
        rw [ps_pers_e c hl] at he
        cases he
      | inr z =>
        rw [ps_pers_n c (c := z.1) (q := z.2) hl] at he
        obtain ⟨y, e1, e2⟩ := ps_end_m he
        have g1 := ps_fresh_m g.2 hl
        have g2 := ps_nums_m _ _ _ y g1.2 e1
        omega
    · rw [ps_pers_f c] at he
      cases he
  by_cases h3 : ps_wd (tx_tk T n m p) 3
  · have g := hw 3 h3
    rw [ps_line_3 h3] at he
    by_cases c : h 1 < 4
    · cases hl : ps_fresh T n m h nm (tx_tk T n m p).2.2.1 with
      | inl e =>
        rw [ps_food_e c hl] at he
        cases he
      | inr z =>
        rw [ps_food_n c (c := z.1) (q := z.2) hl] at he
        obtain ⟨y, e1, e2⟩ := ps_end_m he
        have g1 := ps_fresh_m g.2 hl
        have g2 := ps_nums_m _ _ _ y g1.2 e1
        omega
    · rw [ps_food_f c] at he
      cases he
  by_cases h4 : ps_wd (tx_tk T n m p) 4
  · have g := hw 4 h4
    rw [ps_line_4 h4] at he
    by_cases c : h 2 < 6
    · cases hl : ps_fresh T n m h nm (tx_tk T n m p).2.2.1 with
      | inl e =>
        rw [ps_meet_e c hl] at he
        cases he
      | inr z =>
        have g1 := ps_fresh_m g.2 hl
        cases hs : ps_mt T n m nm (h 0).toNat 7 0 z.2 with
        | inl e =>
          rw [ps_meet_x c (c := z.1) (q := z.2) hl hs] at he
          cases he
        | inr y =>
          rw [ps_meet_n c (c := z.1) (q := z.2) (s := y.1) (r := y.2) hl hs] at he
          have g2 := ps_mt_m _ _ _ y g1.2 hs
          cases he
          exact ⟨Nat.lt_of_lt_of_le g.1 (Nat.le_trans (Nat.le_of_lt g1.1) g2.1), g2.2⟩
    · rw [ps_meet_f c] at he
      cases he
  by_cases h5 : ps_wd (tx_tk T n m p) 5
  · have g := hw 5 h5
    rw [ps_line_5 h5] at he
    by_cases c : h 3 < 10
    · cases hl : ps_look T n m nm 0 (h 0).toNat (tx_tk T n m p).2.2.1 with
      | inl e =>
        rw [ps_debt_e c hl] at he
        cases he
      | inr u =>
        have g1 := ps_look_m g.2 hl
        cases hs : ps_look T n m nm 0 (h 0).toNat (tx_tk T n m (tx_tk T n m p).2.2.1).2.2.1 with
        | inl e =>
          rw [ps_debt_x c hl hs] at he
          cases he
        | inr v =>
          have g2 := ps_look_m g1.2 hs
          by_cases c2 : v = u ∨ ps_db h u v
          · rw [ps_debt_y c hl hs c2] at he
            cases he
          · rw [ps_debt_n c hl hs c2] at he
            obtain ⟨y, e1, e2⟩ := ps_end_m he
            have g3 := ps_nums_m _ _ _ y g2.2 e1
            omega
    · rw [ps_debt_f c] at he
      cases he
  rw [ps_line_no (fun k hk => by
    rcases (show k = 0 ∨ k = 1 ∨ k = 2 ∨ k = 3 ∨ k = 4 ∨ k = 5 by omega) with rfl | rfl | rfl | rfl | rfl | rfl
    · exact h0
    · exact h1
    · exact h2
    · exact h3
    · exact h4
    · exact h5)] at he
  cases he
theorem tx_sign_b (h : (tx_tk T n m p).1 = 3) : (tx_tk T n m p).2.2.1 = (tx_tk T n m p).2.1 + 1 := by
  unfold tx_tk at h ⊢
  split at h
  · cases h
  · split at h
    · cases h
    · split at h
      · exfalso
        unfold tx_rn at h
        split at h
        · cases h
        · split at h
          · cases h
          · cases h
      · rename_i c1 c2 c3
        rw [if_neg c1, if_neg c2, if_neg c3]
end PSM
theorem cs_M_a0 {w : cm_W} {T : Nat → Int} {n m p : Nat} {f : Nat → Int} {g : Nat → Int64} {a0 b0 : Int} {x : Int32} {e : Int} (hM : cs_M w T n m p f g a0 b0) (hx : x.toInt = e) : cs_M (cm_u1 w 32 2 x) T n m p f g e b0 := by
  obtain ⟨h1, h2, h3, h4, h5, h6⟩ := hM
  exact ⟨rd_L_fr (w := w) (fun k j hk => ⟨hs_u1_ne (by omega), rfl⟩) h1, by rw [hs_u1_ne (by omega)]; exact h2, (vl_H_fr (fun k i _ _ => hs_u1_ne (by omega))).trans h3, h4, by rw [hs_u1_self]; exact hx, by rw [hs_u1_ne (by omega)]; exact h6⟩
theorem cs_M_b0 {w : cm_W} {T : Nat → Int} {n m p : Nat} {f : Nat → Int} {g : Nat → Int64} {a0 b0 : Int} {x : Int32} {e : Int} (hM : cs_M w T n m p f g a0 b0) (hx : x.toInt = e) : cs_M (cm_u1 w 32 3 x) T n m p f g a0 e := by
  obtain ⟨h1, h2, h3, h4, h5, h6⟩ := hM
  exact ⟨rd_L_fr (w := w) (fun k j hk => ⟨hs_u1_ne (by omega), rfl⟩) h1, by rw [hs_u1_ne (by omega)]; exact h2, (vl_H_fr (fun k i _ _ => hs_u1_ne (by omega))).trans h3, h4, by rw [hs_u1_ne (by omega)]; exact h5, by rw [hs_u1_self]; exact hx⟩
theorem cs_clear {w : cm_W} {T : Nat → Int} {n m p : Nat} {f : Nat → Int} {g : Nat → Int64} {a0 b0 : Int} (hM : cs_M w T n m p f g a0 b0)  : ∃ w', cm_C 1 84 [.inr (.inr (some 18))] w (none, w') ∧ cs_V w w' ∧ cs_M w' T n m p (ps_up (ps_up (ps_up (ps_up (ps_up (ps_up (ps_up f (4) (10 : Int)) (5) (0 : Int)) (6) (0 : Int)) (0) (0 : Int)) (1) (0 : Int)) (2) (0 : Int)) (3) (0 : Int)) g a0 b0 := by
  have h : ∃ o, cm_C (0 + 1) 84 [.inr (.inr (some 18))] w o ∧ (fun o : cm_O => ∃ w', o = (none, w') ∧ cs_V w w' ∧ cs_M w' T n m p (ps_up (ps_up (ps_up (ps_up (ps_up (ps_up (ps_up f (4) (10 : Int)) (5) (0 : Int)) (6) (0 : Int)) (0) (0 : Int)) (1) (0 : Int)) (2) (0 : Int)) (3) (0 : Int)) g a0 b0) o := by
    refine wk_entry (by rw [xm_c5789269]; exact Nat.le_of_ble_eq_true rfl) ?_
    rw [show cm_ent 84 [.inr (.inr (some 18))] = [some (.inr (.inr (some 18)))] from by unfold cm_ent; rw [xm_c5789269]; rfl]
    refine wk_aload_n xd_dd8ea9b9 rfl ?_
    refine wk_bipush xd_c0e5b029 ?_
    refine wk_putI xf_5bffb3a5 (fun ci => wk_fitI ci) xd_161977b7 ?_
    have hV1_ := cs_V_u1 (c := 18) (i := 0) (x := ((Int8.ofInt 10).toInt32)) (cs_V_rf w) (by omega) (by omega)
    have hM2_ := cs_M_u1 hM (by omega) (by omega) (show (((Int8.ofInt 10).toInt32)).toInt = (10 : Int) from (show (((Int8.ofInt 10).toInt32)).toInt = 10 from by decide)) (vl_q0 18)
    refine wk_aload_n xd_3044dbc3 rfl ?_
    refine wk_iconst xd_1e3d7006 ?_
    refine wk_putI xf_566e8504 (fun ci => wk_fitI ci) xd_654c7a4f ?_
    have hV3_ := cs_V_u1 (c := 18) (i := 1) (x := (Int32.ofInt 0)) hV1_ (by omega) (by omega)
    have hM4_ := cs_M_u1 hM2_ (by omega) (by omega) (show ((Int32.ofInt 0)).toInt = (0 : Int) from (show ((Int32.ofInt 0)).toInt = 0 from by decide)) (vl_q1 18)
    refine wk_aload_n xd_a17bb21e rfl ?_
    refine wk_iconst xd_6b68f3c8 ?_
    refine wk_putI xf_e9d1fd9a (fun ci => wk_fitI ci) xd_3052c743 ?_
    have hV5_ := cs_V_u1 (c := 18) (i := 2) (x := (Int32.ofInt 0)) hV3_ (by omega) (by omega)
    have hM6_ := cs_M_u1 hM4_ (by omega) (by omega) (show ((Int32.ofInt 0)).toInt = (0 : Int) from (show ((Int32.ofInt 0)).toInt = 0 from by decide)) (vl_q2 18)
    refine wk_aload_n xd_d7c22ab0 rfl ?_
    refine wk_iconst xd_20e10408 ?_
    refine wk_putI xf_f12f84a8 (fun ci => wk_fitI ci) xd_d8f0a118 ?_
    have hV7_ := cs_V_u1 (c := 18) (i := 3) (x := (Int32.ofInt 0)) hV5_ (by omega) (by omega)
    have hM8_ := cs_M_u1 hM6_ (by omega) (by omega) (show ((Int32.ofInt 0)).toInt = (0 : Int) from (show ((Int32.ofInt 0)).toInt = 0 from by decide)) (vl_q3 18)
    refine wk_aload_n xd_f9651b36 rfl ?_
    refine wk_iconst xd_1d8dcaf5 ?_
    refine wk_putI xf_88f290cb (fun ci => wk_fitI ci) xd_8161b514 ?_
    have hV9_ := cs_V_u1 (c := 18) (i := 4) (x := (Int32.ofInt 0)) hV7_ (by omega) (by omega)
    have hM10_ := cs_M_u1 hM8_ (by omega) (by omega) (show ((Int32.ofInt 0)).toInt = (0 : Int) from (show ((Int32.ofInt 0)).toInt = 0 from by decide)) (vl_q4 18)
    refine wk_aload_n xd_8fdc8398 rfl ?_
    refine wk_iconst xd_56043d35 ?_
    refine wk_putI xf_9b3e89f9 (fun ci => wk_fitI ci) xd_60175441 ?_
    have hV11_ := cs_V_u1 (c := 18) (i := 5) (x := (Int32.ofInt 0)) hV9_ (by omega) (by omega)
    have hM12_ := cs_M_u1 hM10_ (by omega) (by omega) (show ((Int32.ofInt 0)).toInt = (0 : Int) from (show ((Int32.ofInt 0)).toInt = 0 from by decide)) (vl_q5 18)
    refine wk_aload_n xd_78407e11 rfl ?_
    refine wk_iconst xd_86fe2021 ?_
    refine wk_putI xf_a813b404 (fun ci => wk_fitI ci) xd_58a066e6 ?_
    have hV13_ := cs_V_u1 (c := 18) (i := 6) (x := (Int32.ofInt 0)) hV11_ (by omega) (by omega)
    have hM14_ := cs_M_u1 hM12_ (by omega) (by omega) (show ((Int32.ofInt 0)).toInt = (0 : Int) from (show ((Int32.ofInt 0)).toInt = 0 from by decide)) (vl_q6 18)
    exact wk_return xd_9334b42f xr_95063b6f ⟨_, rfl, hV13_, hM14_⟩
  obtain ⟨o, hC, w', rfl, a⟩ := h
  exact ⟨w', hC, a⟩
theorem cs_clear_Q {f : Nat → Int} {g : Nat → Int64} : ps_Q id (ps_up (ps_up (ps_up (ps_up (ps_up (ps_up (ps_up f (4) (10 : Int)) (5) (0 : Int)) (6) (0 : Int)) (0) (0 : Int)) (1) (0 : Int)) (2) (0 : Int)) (3) (0 : Int)) g ps_h0 (fun _ => 0) := by
  have e : ∀ j, j < 7 → (ps_up (ps_up (ps_up (ps_up (ps_up (ps_up (ps_up f (4) (10 : Int)) (5) (0 : Int)) (6) (0 : Int)) (0) (0 : Int)) (1) (0 : Int)) (2) (0 : Int)) (3) (0 : Int)) j = ps_h0 j := by
    intro j hj
    rcases (show j = 0 ∨ j = 1 ∨ j = 2 ∨ j = 3 ∨ j = 4 ∨ j = 5 ∨ j = 6 by omega) with rfl | rfl | rfl | rfl | rfl | rfl | rfl
    all_goals rfl
  have z0 : ps_h0 0 = 0 := rfl
  have z1 : ps_h0 1 = 0 := rfl
  have z2 : ps_h0 2 = 0 := rfl
  have z3 : ps_h0 3 = 0 := rfl
  refine ⟨fun j hj => ?_, fun j hj => ?_, ?_⟩
  · unfold ps_lv at hj
    rw [z0, z1, z2, z3] at hj
    exact e j (by omega)
  · exfalso
    unfold ps_ln at hj
    rw [z0, z1, z2] at hj
    omega
  · unfold ps_bd
    rw [z0, z1, z2, z3]
    omega
theorem rd_C_over {w : cm_W} {t : Nat × Nat × Nat × Int × Nat} (h : rd_C w t) (h0 : (w.1 2 5).toInt = 0) : t.1 ≠ 1 := by
  obtain ⟨_, h⟩ := h
  rcases h with ⟨a, _⟩ | ⟨a, b, _⟩ | ⟨a, b, _⟩ | ⟨a, b, _⟩ | ⟨a, _⟩
  · omega
  · omega
  · omega
  · omega
  · omega
theorem cs_al {w0 : cm_W} {T : Nat → Int} {n : Nat} (Q : cm_O → Prop) (hk : ∀ (x : Int32) (w : cm_W), cs_V w0 w → ((∃ k q, ps_all T n = .inl (k, q) ∧ x.toInt = -1 ∧ cs_B w k q) ∨ (∃ l h nm, ps_all T n = .inr (l, h, nm) ∧ x.toInt = (l : Int) ∧ l ≤ 900 ∧ (w.1 2 11).toInt = 0 ∧ vl_R w 18 h nm)) → Q (some (.inl x), w)) : ∀ (d l : Nat) (vl : Int32) (w : cm_W) {p : Nat} {f : Nat → Int} {g : Nat → Int64} {a0 b0 : Int} {h : Nat → Int} {nm : Nat → Nat}, d + l = 901 → vl.toInt = (l : Int) → l ≤ p → p ≤ 900 → ps_all T n = ps_text T n 900 d l (h, nm, a0, b0, p) → cs_V w0 w → cs_M w T n 900 p f g a0 b0 → ps_Q id f g h nm → cm_X (cm_C 6) 88 19 [some (.inr (.inr (some 32))), some (.inl vl)] [] w Q := by
  intro d
  induction d with
  | zero =>
    intro l vl w p f g a0 b0 h nm hi hvl hlp hp9 hE hV hM hQ
    exfalso
    omega
  | succ d ih =>
    intro l vl w p f g a0 b0 h nm hi hvl hlp hp9 hE hV hM hQ
    refine wk_iload_n xd_6562b62a rfl ?_
    refine wk_sipush xd_2c82b821 ?_
    refine wk_icmp xd_c281bb92 (t := 79) rfl (fun h23_0 => ?_) (fun h23_0 => ?_)
    · have h23_0 := aw_gt_t (a := ((l : Int) : Int)) (b := (900 : Int)) hvl (show (((Int16.ofInt 900).toInt32)).toInt = 900 from by decide) h23_0
      exfalso
      omega
    · have h23_0 := aw_gt_f (a := ((l : Int) : Int)) (b := (900 : Int)) hvl (show (((Int16.ofInt 900).toInt32)).toInt = 900 from by decide) h23_0
      refine wk_aload_n xd_2c1f3e57 rfl ?_
      refine wk_getR xf_03fa27d8 xd_3f19d526 ?_
      refine wk_getI xf_15d9b336 xd_b6bf99e9 ?_
      refine wk_if xd_f158715d (t := 52) rfl (fun h33_1 => ?_) (fun h33_1 => ?_)
      · have h33_1 := aw_ne_t (a := ((w.1 2 5).toInt : Int)) (b := (0 : Int)) (show ((w.1 2 5)).toInt = ((w.1 2 5).toInt : Int) from rfl) hb_z h33_1
        have hn0 : (tx_tk T n 900 p).1 ≠ 0 := fun z => by
          rcases rd_C_end hM.1.2.1 with ⟨_, a, _⟩ | ⟨a, _⟩
          · exact h33_1 a
          · exact a z
        refine wk_aload_n xd_1d5ba8b3 rfl ?_
        obtain ⟨xL, wL, hCL, hVL, hPL⟩ := cl_line hM hQ
        have hVLa := cs_V_tr hV hVL
        refine wk_call (kd := 0) (i := 41) xd_66647642 rfl (wk_cal (as := [.inr (.inr (some 32))]) (t := []) xl_06227104 rfl xn_3feb5728 xc_39a64e49 rfl rfl xv_986fc5ca rfl) (cm_C_mono (by omega) hCL) ?_
        cases hl : ps_line T n 900 h nm a0 b0 p with
        | inl e =>
          rw [hl] at hPL
          obtain ⟨hxL, hBL⟩ := hPL
          refine wk_if xd_447d431a (t := 71) rfl (fun _ => ?_) (fun h => absurd (aw_eq_f hxL hb_z h) (by omega))
          refine wk_iconst xd_f5cb8c5f ?_
          exact wk_ireturn xd_189c1832 xr_6e309826 rfl (hk _ _ hVLa (.inl ⟨_, _, hE.trans (ps_text_e1 hn0 hl), by decide, hBL⟩))
        | inr s =>
          rw [hl] at hPL
          obtain ⟨hxL, f2, g2, hM2, hQ2⟩ := hPL
          have hm2 := ps_line_m hM.1.2.2 hl
          refine wk_if xd_447d431a (t := 71) rfl (fun h => absurd (aw_eq_t hxL hb_z h) (by omega)) (fun _ => ?_)
          refine wk_aload_n xd_6b07d2a8 rfl ?_
          refine wk_getR xf_03fa27d8 xd_f5bca8aa ?_
          refine wk_bipush xd_ceaf386c ?_
          obtain ⟨xS, wS, hCS, hRS⟩ := ts_ok (w := wL) (k := ((Int8.ofInt 59).toInt32)) (c := 59) (by decide) hM2.1 hM2.2.1
          refine wk_call (kd := 0) (i := 44) xd_34ee8a71 rfl (wk_cal (as := [.inr (.inr (some 2)), .inl ((Int8.ofInt 59).toInt32)]) (t := []) xl_fcfa5d64 rfl xn_fe71b019 xc_c4c1f567 rfl rfl xv_89786e0c rfl) (cm_C_mono (by omega) hCS) ?_
          rcases hRS with ⟨h3, h59, hxS, hLS, hSS⟩ | ⟨hno, hxS, hBS⟩
          · skip
            refine wk_if xd_2c9a9f7f (t := 73) rfl (fun _ => ?_) (fun h => absurd (aw_ne_f hxS hb_z h) (by omega))
            refine aw_iinc (a := ((l : Int) : Int)) (b := (1 : Int)) (e := ((l : Int) + 1 : Int)) xd_d0d96f34 (by rw [xm_99812ed2]; rfl) rfl rfl hvl (show ((Int32.ofInt 1)).toInt = 1 from by decide) (by omega) (by omega) (by omega) (fun v6_ p6_ => ?_)
            refine wk_goto xd_f2cc7fbc (t := 19) rfl ?_
            have hb3 := tx_tk_b (m := 900) (T := T) hM2.1.2.2 ⟨by rw [h3]; omega, by rw [h3]; omega⟩
            have hb4 := tx_sign_b h3
            exact ih (l + 1) _ wS (by omega) p6_ (by omega) (by omega) (hE.trans (ps_text_go hn0 hl ⟨h3, h59⟩)) (cs_V_tr hVLa (cs_V_E (rd_E_S hSS))) (cs_M_S hM2 hSS hLS) hQ2
          · skip
            refine wk_if xd_2c9a9f7f (t := 73) rfl (fun h => absurd (aw_ne_t hxS hb_z h) (by omega)) (fun _ => ?_)
            refine wk_iconst xd_f5cb8c5f ?_
            exact wk_ireturn xd_189c1832 xr_6e309826 rfl (hk _ _ (cs_V_tr hVLa (cs_V_E (rd_E_B hBS))) (.inl ⟨1, _, hE.trans (ps_text_e2 hn0 hl hno), by decide, (cs_B_B hBS (by decide))⟩))
      · have h33_1 := aw_ne_f (a := ((w.1 2 5).toInt : Int)) (b := (0 : Int)) (show ((w.1 2 5)).toInt = ((w.1 2 5).toInt : Int) from rfl) hb_z h33_1
        have h33 : (w.1 2 5).toInt = 0 := h33_1
        refine wk_aload_n xd_ad3a5b70 rfl ?_
        refine wk_getR xf_03fa27d8 xd_9a924528 ?_
        obtain ⟨xc, wc, hCc, hRc⟩ := cl_ok (w := w) hM.1.2.1 hM.2.1
        refine wk_call (kd := 0) (i := 37) xd_be677e93 rfl (wk_cal (as := [.inr (.inr (some 2))]) (t := []) xl_4baad469 rfl xn_e06b76c8 xc_647a832b rfl rfl xv_dbeffa2c rfl) (cm_C_mono (by omega) hCc) ?_
        rcases hRc with ⟨h0, hxc, rfl⟩ | ⟨h0, hxc, hBc⟩
        · skip
          refine wk_if xd_e2c79e52 (t := 50) rfl (fun h => absurd (aw_eq_t hxc hb_z h) (by omega)) (fun _ => ?_)
          refine wk_iload_n xd_fb4196da rfl ?_
          refine wk_goto xd_235b8f8b (t := 51) rfl ?_
          exact wk_ireturn xd_4dd25351 xr_6e309826 rfl (hk _ _ hV (.inr ⟨l, h, nm, hE.trans (ps_text_end h0), hvl, by omega, hM.2.1, cs_R hM hQ⟩))
        · skip
          refine wk_if xd_e2c79e52 (t := 50) rfl (fun _ => ?_) (fun h => absurd (aw_eq_f hxc hb_z h) (by omega))
          refine wk_iconst xd_450a573e ?_
          have hno : ∀ k, k < 6 → ¬ ps_wd (tx_tk T n 900 p) k := fun k hk z => rd_C_over hM.1.2.1 h33 z.1
          exact wk_ireturn xd_4dd25351 xr_6e309826 rfl (hk _ _ (cs_V_tr hV (cs_V_E (rd_E_B hBc))) (.inl ⟨1, _, hE.trans (ps_text_e1 h0 (ps_line_no hno)), by decide, (cs_B_B hBc (by decide))⟩))
theorem cs_all {w : cm_W} {T : Nat → Int} {n : Nat} {f : Nat → Int} {g : Nat → Int64} {a0 b0 : Int} (hM : cs_M w T n 900 0 f g a0 b0) : ∃ x w', cm_C 7 88 [.inr (.inr (some 32))] w (some (.inl x), w') ∧ cs_V w w' ∧ ((∃ k q, ps_all T n = .inl (k, q) ∧ x.toInt = -1 ∧ cs_B w' k q) ∨ (∃ l h nm, ps_all T n = .inr (l, h, nm) ∧ x.toInt = (l : Int) ∧ l ≤ 900 ∧ (w'.1 2 11).toInt = 0 ∧ vl_R w' 18 h nm)) := by
  have h : ∃ o, cm_C (6 + 1) 88 [.inr (.inr (some 32))] w o ∧ (fun o : cm_O => ∃ x w', o = (some (.inl x), w') ∧ cs_V w w' ∧ ((∃ k q, ps_all T n = .inl (k, q) ∧ x.toInt = -1 ∧ cs_B w' k q) ∨ (∃ l h nm, ps_all T n = .inr (l, h, nm) ∧ x.toInt = (l : Int) ∧ l ≤ 900 ∧ (w'.1 2 11).toInt = 0 ∧ vl_R w' 18 h nm))) o := by
    refine wk_entry (by rw [xm_99812ed2]; exact Nat.le_of_ble_eq_true rfl) ?_
    rw [show cm_ent 88 [.inr (.inr (some 32))] = [some (.inr (.inr (some 32))), none] from by unfold cm_ent; rw [xm_99812ed2]; rfl]
    refine wk_aload_n xd_a23312db rfl ?_
    refine wk_getR xf_4099a588 xd_8254f195 ?_
    obtain ⟨wc, hCc, hVc, hMc⟩ := cs_clear hM
    refine wk_call (kd := 0) (i := 19) xd_246193c9 rfl (wk_cal (as := [.inr (.inr (some 18))]) (t := []) xl_a2a0703f rfl xn_a465a1a7 xc_49288de5 rfl rfl xv_a388815a rfl) (cm_C_mono (by omega) hCc) ?_
    refine wk_aload_n xd_d48a8a75 rfl ?_
    refine wk_iconst xd_1511b10a ?_
    refine wk_putI xf_b21e535d (fun _ => aw_fb (.inl (by decide))) xd_ac7a9505 ?_
    have hV1_ := cs_V_u1 (c := 32) (i := 2) (x := (Int32.ofInt 0)) hVc (by omega) (by omega)
    have hM2_ := cs_M_a0 hMc (show ((Int32.ofInt 0)).toInt = 0 from by decide)
    refine wk_aload_n xd_745d36ec rfl ?_
    refine wk_iconst xd_03fd2c6a ?_
    refine wk_putI xf_18299187 (fun _ => aw_fb (.inl (by decide))) xd_27d58590 ?_
    have hV3_ := cs_V_u1 (c := 32) (i := 3) (x := (Int32.ofInt 0)) hV1_ (by omega) (by omega)
    have hM4_ := cs_M_b0 hM2_ (show ((Int32.ofInt 0)).toInt = 0 from by decide)
    refine wk_iconst xd_5f5cbf6a ?_
    refine wk_istore_n xd_3fef2232 (by rw [xm_99812ed2]; rfl) rfl ?_
    exact cs_al (w0 := w) (T := T) (n := n) _ (fun x w9 hV9 h9 => ⟨x, w9, rfl, hV9, h9⟩) 901 0 _ _ rfl (by decide) (Nat.le_refl 0) (by omega) rfl hV3_ hM4_ cs_clear_Q
  obtain ⟨o, hC, x, w', rfl, a⟩ := h
  exact ⟨x, w', hC, a⟩

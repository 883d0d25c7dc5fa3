set_option maxRecDepth 100000 in
theorem xd_286ae941 : decode (ia_code 125) 0 = .ok (.aload_n 0, 1) := fdd_d (by decide +kernel)
set_option maxRecDepth 100000 in
theorem xd_b70ab306 : decode (ia_code 125) 1 = .ok (.ldc2_w 124, 3) := fdd_d (by decide +kernel)
set_option maxRecDepth 100000 in
theorem xl_7d6508b1 : ia_pl (ia_cls 125) 124 = some (9, 6909036, 0, 0, 1484) := by decide +kernel
set_option maxRecDepth 100000 in
theorem xl_937ea82b : ia_pl (ia_cls 125) 210 = some (1, 120, 0, 0, 1664) := by decide +kernel
set_option maxRecDepth 100000 in
theorem xd_e6f2e149 : decode (ia_code 125) 4 = .ok (.invokevirtual 210, 3) := fdd_d (by decide +kernel)
set_option maxRecDepth 100000 in
theorem xd_bd698157 : decode (ia_code 125) 7 = .ok (.ifCond .eq 7, 3) := fdd_d (by decide +kernel)
set_option maxRecDepth 100000 in
theorem xd_b0dc7ab0 : decode (ia_code 125) 10 = .ok (.iconst 0, 1) := fdd_d (by decide +kernel)
set_option maxRecDepth 100000 in
theorem xd_851059d7 : decode (ia_code 125) 11 = .ok (.goto 104, 3) := fdd_d (by decide +kernel)
set_option maxRecDepth 100000 in
theorem xd_1f042950 : decode (ia_code 125) 115 = .ok (.ireturn, 1) := fdd_d (by decide +kernel)
set_option maxRecDepth 100000 in
theorem xr_97a83e7e : ia_ret 125 = some .int := by decide +kernel
set_option maxRecDepth 100000 in
theorem xd_89c76737 : decode (ia_code 125) 14 = .ok (.aload_n 0, 1) := fdd_d (by decide +kernel)
set_option maxRecDepth 100000 in
theorem xd_740d99e1 : decode (ia_code 125) 15 = .ok (.ldc2_w 126, 3) := fdd_d (by decide +kernel)
set_option maxRecDepth 100000 in
theorem xl_2d034957 : ia_pl (ia_cls 125) 126 = some (9, 1870095731, 0, 0, 1485) := by decide +kernel
set_option maxRecDepth 100000 in
theorem xd_cb1e1a6f : decode (ia_code 125) 18 = .ok (.invokevirtual 210, 3) := fdd_d (by decide +kernel)
set_option maxRecDepth 100000 in
theorem xd_46ac9928 : decode (ia_code 125) 21 = .ok (.ifCond .eq 7, 3) := fdd_d (by decide +kernel)
set_option maxRecDepth 100000 in
theorem xd_a7f8f93d : decode (ia_code 125) 24 = .ok (.iconst 1, 1) := fdd_d (by decide +kernel)
set_option maxRecDepth 100000 in
theorem xd_bdeb6a37 : decode (ia_code 125) 25 = .ok (.goto 90, 3) := fdd_d (by decide +kernel)
set_option maxRecDepth 100000 in
theorem xd_d13c2caa : decode (ia_code 125) 28 = .ok (.aload_n 0, 1) := fdd_d (by decide +kernel)
set_option maxRecDepth 100000 in
theorem xd_45db3332 : decode (ia_code 125) 29 = .ok (.ldc2_w 128, 3) := fdd_d (by decide +kernel)
set_option maxRecDepth 100000 in
theorem xl_7ef0fdd3 : ia_pl (ia_cls 125) 128 = some (9, 1818848101, 0, 0, 1486) := by decide +kernel
set_option maxRecDepth 100000 in
theorem xd_992b8050 : decode (ia_code 125) 32 = .ok (.invokevirtual 210, 3) := fdd_d (by decide +kernel)
set_option maxRecDepth 100000 in
theorem xd_02b414b7 : decode (ia_code 125) 35 = .ok (.ifCond .eq 7, 3) := fdd_d (by decide +kernel)
set_option maxRecDepth 100000 in
theorem xd_9ec9dc39 : decode (ia_code 125) 38 = .ok (.iconst 2, 1) := fdd_d (by decide +kernel)
set_option maxRecDepth 100000 in
theorem xd_288297ea : decode (ia_code 125) 39 = .ok (.goto 76, 3) := fdd_d (by decide +kernel)
set_option maxRecDepth 100000 in
theorem xd_8c2eee35 : decode (ia_code 125) 42 = .ok (.aload_n 0, 1) := fdd_d (by decide +kernel)
set_option maxRecDepth 100000 in
theorem xd_de1a3741 : decode (ia_code 125) 43 = .ok (.ldc2_w 130, 3) := fdd_d (by decide +kernel)
set_option maxRecDepth 100000 in
theorem xl_708d0f2a : ia_pl (ia_cls 125) 130 = some (9, 26990, 0, 0, 1487) := by decide +kernel
set_option maxRecDepth 100000 in
theorem xd_1a213181 : decode (ia_code 125) 46 = .ok (.invokevirtual 210, 3) := fdd_d (by decide +kernel)
set_option maxRecDepth 100000 in
theorem xd_afdce953 : decode (ia_code 125) 49 = .ok (.ifCond .eq 7, 3) := fdd_d (by decide +kernel)
set_option maxRecDepth 100000 in
theorem xd_d9706873 : decode (ia_code 125) 52 = .ok (.iconst 3, 1) := fdd_d (by decide +kernel)
set_option maxRecDepth 100000 in
theorem xd_a599b004 : decode (ia_code 125) 53 = .ok (.goto 62, 3) := fdd_d (by decide +kernel)
set_option maxRecDepth 100000 in
theorem xd_0d572a81 : decode (ia_code 125) 56 = .ok (.aload_n 0, 1) := fdd_d (by decide +kernel)
set_option maxRecDepth 100000 in
theorem xd_68576a70 : decode (ia_code 125) 57 = .ok (.ldc2_w 132, 3) := fdd_d (by decide +kernel)
set_option maxRecDepth 100000 in
theorem xl_ed84af8d : ia_pl (ia_cls 125) 132 = some (9, 1684108389, 0, 0, 1488) := by decide +kernel
set_option maxRecDepth 100000 in
theorem xd_04b44e72 : decode (ia_code 125) 60 = .ok (.invokevirtual 210, 3) := fdd_d (by decide +kernel)
set_option maxRecDepth 100000 in
theorem xd_32a7b902 : decode (ia_code 125) 63 = .ok (.ifCond .eq 7, 3) := fdd_d (by decide +kernel)
set_option maxRecDepth 100000 in
theorem xd_41141e5e : decode (ia_code 125) 66 = .ok (.iconst 4, 1) := fdd_d (by decide +kernel)
set_option maxRecDepth 100000 in
theorem xd_8960a055 : decode (ia_code 125) 67 = .ok (.goto 48, 3) := fdd_d (by decide +kernel)
set_option maxRecDepth 100000 in
theorem xd_39a694f4 : decode (ia_code 125) 70 = .ok (.aload_n 0, 1) := fdd_d (by decide +kernel)
set_option maxRecDepth 100000 in
theorem xd_c74cebdd : decode (ia_code 125) 71 = .ok (.ldc2_w 134, 3) := fdd_d (by decide +kernel)
set_option maxRecDepth 100000 in
theorem xl_f1ad4133 : ia_pl (ia_cls 125) 134 = some (9, 114853572732274, 0, 0, 1489) := by decide +kernel
set_option maxRecDepth 100000 in
theorem xd_cef1e89c : decode (ia_code 125) 74 = .ok (.invokevirtual 210, 3) := fdd_d (by decide +kernel)
set_option maxRecDepth 100000 in
theorem xd_76bf349d : decode (ia_code 125) 77 = .ok (.ifCond .eq 7, 3) := fdd_d (by decide +kernel)
set_option maxRecDepth 100000 in
theorem xd_e3f65c32 : decode (ia_code 125) 80 = .ok (.iconst 5, 1) := fdd_d (by decide +kernel)
set_option maxRecDepth 100000 in
theorem xd_6c1a04aa : decode (ia_code 125) 81 = .ok (.goto 34, 3) := fdd_d (by decide +kernel)
set_option maxRecDepth 100000 in
theorem xd_daef3eae : decode (ia_code 125) 84 = .ok (.aload_n 0, 1) := fdd_d (by decide +kernel)
set_option maxRecDepth 100000 in
theorem xd_36d149fd : decode (ia_code 125) 85 = .ok (.ldc2_w 136, 3) := fdd_d (by decide +kernel)
set_option maxRecDepth 100000 in
theorem xl_0673c3a3 : ia_pl (ia_cls 125) 136 = some (9, 1668245870, 0, 0, 1490) := by decide +kernel
set_option maxRecDepth 100000 in
theorem xd_d9d02b91 : decode (ia_code 125) 88 = .ok (.invokevirtual 210, 3) := fdd_d (by decide +kernel)
set_option maxRecDepth 100000 in
theorem xd_b5eaf5b0 : decode (ia_code 125) 91 = .ok (.ifCond .eq 8, 3) := fdd_d (by decide +kernel)
set_option maxRecDepth 100000 in
theorem xd_83da000c : decode (ia_code 125) 94 = .ok (.bipush 6, 2) := fdd_d (by decide +kernel)
set_option maxRecDepth 100000 in
theorem xd_a78d8388 : decode (ia_code 125) 96 = .ok (.goto 19, 3) := fdd_d (by decide +kernel)
set_option maxRecDepth 100000 in
theorem xd_c05c53e8 : decode (ia_code 125) 99 = .ok (.aload_n 0, 1) := fdd_d (by decide +kernel)
set_option maxRecDepth 100000 in
theorem xd_c5110452 : decode (ia_code 125) 100 = .ok (.ldc2_w 138, 3) := fdd_d (by decide +kernel)
set_option maxRecDepth 100000 in
theorem xl_d8263d6e : ia_pl (ia_cls 125) 138 = some (9, 121450625394034, 0, 0, 1491) := by decide +kernel
set_option maxRecDepth 100000 in
theorem xd_1e6d2746 : decode (ia_code 125) 103 = .ok (.invokevirtual 210, 3) := fdd_d (by decide +kernel)
set_option maxRecDepth 100000 in
theorem xd_bfe1b008 : decode (ia_code 125) 106 = .ok (.ifCond .eq 8, 3) := fdd_d (by decide +kernel)
set_option maxRecDepth 100000 in
theorem xd_764b7e6b : decode (ia_code 125) 109 = .ok (.bipush 7, 2) := fdd_d (by decide +kernel)
set_option maxRecDepth 100000 in
theorem xd_c8d74d2a : decode (ia_code 125) 111 = .ok (.goto 4, 3) := fdd_d (by decide +kernel)
set_option maxRecDepth 100000 in
theorem xd_f6d78f9c : decode (ia_code 125) 114 = .ok (.iconst (-1), 1) := fdd_d (by decide +kernel)
set_option maxRecDepth 100000 in
theorem xm_b9e26c94 : ia_maxL 125 = 1 := by decide +kernel
/-! ## the reference's sentence, exactly (wip/p22/gen_sr.py) -/
def sr_K (w : cm_W) : List Nat → Prop
  | [] => True
  | a :: l => (w.1 199 l.length).toInt = (a : Int) ∧ sr_K w l
theorem sr_K_lt {w w' : cm_W} : ∀ (s : List Nat), (∀ i, i < s.length → w'.1 199 i = w.1 199 i) → sr_K w s → sr_K w' s
  | [], _, _ => trivial
  | a :: l, h, k => ⟨by rw [h l.length (Nat.lt_succ_self _)]; exact k.1, sr_K_lt l (fun i hi => h i (Nat.lt_succ_of_lt hi)) k.2⟩
theorem sr_K_app {w : cm_W} {s : List Nat} : ∀ (l : List Nat), sr_K w (l ++ s) → sr_K w s
  | [], k => k
  | _ :: l, k => sr_K_app l k.2
def sr_d : List Nat → Nat
  | [] => 0
  | a :: l => (if a = 20 ∨ a = 23 then 1 else 0) + sr_d l
theorem sr_d_app : ∀ (l s : List Nat), sr_d (l ++ s) = sr_d l + sr_d s
  | [], s => (Nat.zero_add _).symm
  | a :: l, s => by
    have h := sr_d_app l s
    show (if a = 20 ∨ a = 23 then 1 else 0) + sr_d (l ++ s) = (if a = 20 ∨ a = 23 then 1 else 0) + sr_d l + sr_d s
    omega
def sr_M (w : cm_W) (T : Nat → Int) (n m p o t d c f : Nat) : Prop := rm_L w T n m p ∧ (w.1 184 15).toInt = 0 ∧ (w.1 184 40).toInt = (o : Int) ∧ (w.1 184 41).toInt = (t : Int) ∧ (w.1 184 42).toInt = (d : Int) ∧ (w.1 184 39).toInt = (c : Int) ∧ (w.1 184 43).toInt = (f : Int)
def sr_V (w w' : cm_W) : Prop := ∀ k i, ¬ (k = 184 ∧ (i = 4 ∨ (11 ≤ i ∧ i ≤ 18) ∨ (39 ≤ i ∧ i ≤ 43))) → k ≠ 188 → k ≠ 199 → w'.1 k i = w.1 k i ∧ w'.2 k i = w.2 k i
theorem sr_V_rf (w : cm_W) : sr_V w w := fun _ _ _ _ _ => ⟨rfl, rfl⟩
theorem sr_V_tr {w w1 w2 : cm_W} (h1 : sr_V w w1) (h2 : sr_V w1 w2) : sr_V w w2 := fun k i a b c => ⟨(h2 k i a b c).1.trans (h1 k i a b c).1, (h2 k i a b c).2.trans (h1 k i a b c).2⟩
theorem sr_V_E {w w' : cm_W} (h : rm_E w w') : sr_V w w' := fun k i a _ _ => h k i (by omega)
theorem sr_V_R {w w' : cm_W} {h : Nat → Int} {nm : Nat → Nat} (hV : sr_V w w') (hR : mv_R w h nm) : mv_R w' h nm := mv_R_f2 (fun i _ => (hV 186 i (by omega) (by omega) (by omega)).1) (fun i _ => (hV 189 i (by omega) (by omega) (by omega)).2) hR
/-- nothing that the reader holds has changed -/
def sr_fx (w w' : cm_W) : Prop := (∀ i, w'.1 185 i = w.1 185 i) ∧ (∀ i, i ≤ 17 → w'.1 184 i = w.1 184 i) ∧ w'.2 = w.2
theorem sr_mk {w w' : cm_W} {T : Nat → Int} {n m p o t d c f o' t' d' c' f' : Nat} (h : sr_M w T n m p o t d c f) (hF : sr_fx w w') (e1 : (w'.1 184 40).toInt = (o' : Int)) (e2 : (w'.1 184 41).toInt = (t' : Int)) (e3 : (w'.1 184 42).toInt = (d' : Int)) (e4 : (w'.1 184 39).toInt = (c' : Int)) (e5 : (w'.1 184 43).toInt = (f' : Int)) : sr_M w' T n m p o' t' d' c' f' := ⟨rm_L_fr hF.1 (fun i hi => hF.2.1 i (by omega)) (by rw [hF.2.2]) (fun i => by rw [hF.2.2]) h.1, by rw [hF.2.1 15 (by omega)]; exact h.2.1, e1, e2, e3, e4, e5⟩
theorem sr_nx {w w' : cm_W} {T : Nat → Int} {n m p q o t d c f : Nat} (h : sr_M w T n m p o t d c f) (hS : rm_S w w') (hL : rm_L w' T n m q) : sr_M w' T n m q o t d c f := ⟨hL, by rw [(hS 184 15 (by omega)).1]; exact h.2.1, by rw [(hS 184 40 (by omega)).1]; exact h.2.2.1, by rw [(hS 184 41 (by omega)).1]; exact h.2.2.2.1, by rw [(hS 184 42 (by omega)).1]; exact h.2.2.2.2.1, by rw [(hS 184 39 (by omega)).1]; exact h.2.2.2.2.2.1, by rw [(hS 184 43 (by omega)).1]; exact h.2.2.2.2.2.2⟩
theorem sr_next {w : cm_W} {T : Nat → Int} {n m p o t d c f : Nat} (h : sr_M w T n m p o t d c f) (ht : 1 ≤ (tx_tk T n m p).1 ∧ (tx_tk T n m p).1 ≤ 3) : ∃ w', cm_C 2 129 [.inr (.inr (some 184))] w (none, w') ∧ rm_S w w' ∧ sr_M w' T n m (tx_tk T n m p).2.2.1 o t d c f := by
  have hb := tx_tk_b (m := m) (T := T) h.1.2.2 ht
  obtain ⟨w', hC, hS, hR⟩ := mn_ok (w := w) (p := (tx_tk T n m p).2.2.1) h.1.1 (rm_C_at h.1.2.1 ht) hb.2.1
  exact ⟨w', hC, hS, sr_nx h hS ⟨rm_T_S h.1.1 hS, hR, hb.2.1⟩⟩
theorem sr_n0 {w : cm_W} {h : Nat → Int} {nm : Nat → Nat} (hR : mv_R w h nm) : rm_N w 0 0 (h 0).toNat nm ∧ 0 + (h 0).toNat ≤ 32 ∧ (w.1 186 0).toInt = ((h 0).toNat : Int) := by
  obtain ⟨q1, q2, q3⟩ := hR
  unfold ps_bd at q3
  have g0 := q1 0 (.inl (by omega))
  exact ⟨fun j hj => q2 (0 + j) (.inl ⟨by omega, by omega⟩), by omega, g0.trans (by omega)⟩
theorem sr_n1 {w : cm_W} {h : Nat → Int} {nm : Nat → Nat} (hR : mv_R w h nm) : rm_N w 6 6 (h 1).toNat nm ∧ 6 + (h 1).toNat ≤ 32 ∧ (w.1 186 1).toInt = ((h 1).toNat : Int) := by
  obtain ⟨q1, q2, q3⟩ := hR
  unfold ps_bd at q3
  have g0 := q1 1 (.inl (by omega))
  exact ⟨fun j hj => q2 (6 + j) (.inr (.inl ⟨by omega, by omega, by omega⟩)), by omega, g0.trans (by omega)⟩
theorem sr_n2 {w : cm_W} {h : Nat → Int} {nm : Nat → Nat} (hR : mv_R w h nm) : rm_N w 10 10 (h 2).toNat nm ∧ 10 + (h 2).toNat ≤ 32 ∧ (w.1 186 2).toInt = ((h 2).toNat : Int) := by
  obtain ⟨q1, q2, q3⟩ := hR
  unfold ps_bd at q3
  have g0 := q1 2 (.inl (by omega))
  exact ⟨fun j hj => q2 (10 + j) (.inr (.inr ⟨by omega, by omega, by omega⟩)), by omega, g0.trans (by omega)⟩
theorem sr_look {w : cm_W} {T : Nat → Int} {n m p : Nat} {nm : Nat → Nat} {a b k : Nat} {va vb : Int32} (hL : rm_L w T n m p) (hN : rm_N w a b k nm) (hak : a + k ≤ 32) (hva : va.toInt = (a : Int)) (hvb : vb.toInt = (k : Int)) : ∃ x w', cm_C 4 274 [.inr (.inr (some 184)), .inl va, .inl vb] w (some (.inl x), w') ∧ ((∃ i, ps_look T n m nm b k p = .inr i ∧ x.toInt = 1 ∧ (w'.1 184 18).toInt = i ∧ (∀ c i, ¬ (c = 184 ∧ i = 18) → w'.1 c i = w.1 c i) ∧ w'.2 = w.2) ∨ (∃ k9 q9, ps_look T n m nm b k p = .inl (k9, q9) ∧ x.toInt = 0 ∧ rm_B w w' k9 q9)) := by
  have h9 : ∃ oo, cm_C (3 + 1) 274 [.inr (.inr (some 184)), .inl va, .inl vb] w oo ∧ (fun oo : cm_O => ∃ x w', oo = (some (.inl x), w') ∧ ((∃ i, ps_look T n m nm b k p = .inr i ∧ x.toInt = 1 ∧ (w'.1 184 18).toInt = i ∧ (∀ c i, ¬ (c = 184 ∧ i = 18) → w'.1 c i = w.1 c i) ∧ w'.2 = w.2) ∨ (∃ k9 q9, ps_look T n m nm b k p = .inl (k9, q9) ∧ x.toInt = 0 ∧ rm_B w w' k9 q9))) oo := by
    refine wk_entry (by rw [xm_0ba9af26]; exact Nat.le_of_ble_eq_true rfl) ?_
    rw [show cm_ent 274 [.inr (.inr (some 184)), .inl va, .inl vb] = [some (.inr (.inr (some 184))), some (.inl va), some (.inl vb)] from by unfold cm_ent; rw [xm_0ba9af26]; rfl]
    refine wk_aload_n xd_c26438f5 rfl ?_
    obtain ⟨xn, hCn, hxn⟩ := mN_ok (w := w) hL.2.1 hL.1.2.2.2.2.2.2
    refine wk_call (kd := 0) (i := 193) xd_4ef7265e rfl (wk_cal (as := [.inr (.inr (some 184))]) (t := []) xl_53c8d896 rfl xn_dd061a8b xc_45d1603c rfl rfl xv_c982c530 rfl) (cm_C_mono (by omega) hCn) ?_
    rcases hxn with ⟨hxn, hni⟩ | ⟨hxn, hni⟩
    · obtain ⟨hw, hwl⟩ := rm_C_wat hL.2.1 hni.1
      refine wk_if xd_8339f93a (t := 13) rfl (fun _ => ?_) (fun h => absurd (aw_ne_f hxn hb_z h) (by omega))
      refine wk_aload_n xd_339886dd rfl ?_
      refine wk_aload_n xd_45211e73 rfl ?_
      refine wk_iload_n xd_b9310e7a rfl ?_
      refine wk_iload_n xd_88744d97 rfl ?_
      obtain ⟨xf, hCf, ef⟩ := mf_ok (w := w) hN hak hw hwl hva hvb
      have bf := tx_find_b (nm := nm) (b := b) (k := k) (c := (tx_tk T n m p).2.2.2.2)
      refine wk_call (kd := 0) (i := 197) xd_c3d2269a rfl (wk_cal (as := [.inr (.inr (some 184)), .inl va, .inl vb]) (t := [.inr (.inr (some 184))]) xl_dca335f2 rfl xn_07bcd519 xc_5fc2ff04 rfl rfl xv_24d9c4b3 rfl) (cm_C_mono (by omega) hCf) ?_
      refine wk_putI xf_a4c765d7 (fun ci => wk_fitI ci) xd_cbc4f639 ?_
      refine wk_aload_n xd_6b862ff5 rfl ?_
      refine wk_getI xf_d6564589 xd_beec3943 ?_
      refine wk_if xd_b00f9732 (t := 38) rfl (fun h27_1 => ?_) (fun h27_1 => ?_)
      · have h27_1 := aw_ge_t (a := ((tx_find nm b k (tx_tk T n m p).2.2.2.2) : Int)) (b := (0 : Int)) (show (((cm_u1 w 184 18 xf).1 184 18)).toInt = ((tx_find nm b k (tx_tk T n m p).2.2.2.2) : Int) from ef) hb_z h27_1
        refine wk_iconst xd_3367775d ?_
        refine wk_goto xd_4f92daba (t := 43) rfl ?_
        refine wk_ireturn xd_599acd73 xr_7b85aa27 wk_z1 ⟨_, _, rfl, .inl ⟨(tx_find nm b k (tx_tk T n m p).2.2.2.2), (if_pos hni).trans (if_pos (by omega)), by decide, by rw [hs_u1_self]; exact ef, fun c i h9 => hs_u1_ne h9, rfl⟩⟩
      · have h27_1 := aw_ge_f (a := ((tx_find nm b k (tx_tk T n m p).2.2.2.2) : Int)) (b := (0 : Int)) (show (((cm_u1 w 184 18 xf).1 184 18)).toInt = ((tx_find nm b k (tx_tk T n m p).2.2.2.2) : Int) from ef) hb_z h27_1
        refine wk_aload_n xd_9c4673ef rfl ?_
        refine wk_iconst xd_e7cc66fd ?_
        refine wk_call (kd := 0) (i := 176) xd_c90528da rfl (wk_cal (as := [.inr (.inr (some 184)), .inl (Int32.ofInt 3)]) (t := []) xl_e8fed12d rfl xn_f63023b8 xc_1907b494 rfl rfl xv_a1095a1b rfl) (cm_C_mono (by omega) (mb_ok (w := (cm_u1 w 184 18 xf)) (k := (Int32.ofInt 3)))) ?_
        refine wk_if xd_c2b3b495 (t := 42) rfl (fun _ => ?_) (fun h => absurd (aw_eq_f (show ((Int32.ofInt 0)).toInt = 0 from by decide) hb_z h) (by omega))
        refine wk_iconst xd_efad29c3 ?_
        refine wk_ireturn xd_599acd73 xr_7b85aa27 wk_z0 ⟨_, _, rfl, .inr ⟨3, _, (if_pos hni).trans (if_neg (by omega)), by decide, (by rw [hs_u1_ne (by omega), hs_u1_self]; decide), ?_, fun c i h9 => ⟨by rw [hs_u1_ne (by omega), hs_u1_ne (by omega), hs_u1_ne (by omega)], rfl⟩⟩⟩
        rw [hs_u1_self, hs_u1_ne (by omega), hs_u1_ne (by omega)]
        exact hL.2.1.1
    · skip
      refine wk_if xd_8339f93a (t := 13) rfl (fun h => absurd (aw_ne_t hxn hb_z h) (by omega)) (fun _ => ?_)
      refine wk_aload_n xd_b4dda05b rfl ?_
      refine wk_iconst xd_cfd56325 ?_
      refine wk_call (kd := 0) (i := 176) xd_cb228ed6 rfl (wk_cal (as := [.inr (.inr (some 184)), .inl (Int32.ofInt 1)]) (t := []) xl_e8fed12d rfl xn_f63023b8 xc_1907b494 rfl rfl xv_a1095a1b rfl) (cm_C_mono (by omega) (mb_ok (w := w) (k := (Int32.ofInt 1)))) ?_
      refine wk_ireturn xd_8dc9b92d xr_7b85aa27 wk_z0 ⟨_, _, rfl, .inr ⟨1, _, if_neg hni, by decide, rm_bB (by decide) hL.2.1.1⟩⟩
  obtain ⟨oo, hC, x, w', rfl, a⟩ := h9
  exact ⟨x, w', hC, a⟩
theorem sr_leaf {w : cm_W} {t : sp_T} (hC0 : rm_C w t) : ∃ x, cm_C 2 125 [.inr (.inr (some 184))] w (some (.inl x), w) ∧ ((∃ k : Nat, 14 ≤ k ∧ k ≤ 21 ∧ ps_wd t k ∧ x.toInt = (k : Int) - 14) ∨ (x.toInt = -1 ∧ ∀ k, 14 ≤ k → k ≤ 21 → ¬ ps_wd t k)) := by
  have h9 : ∃ oo, cm_C (1 + 1) 125 [.inr (.inr (some 184))] w oo ∧ (fun oo : cm_O => ∃ x, oo = (some (.inl x), w) ∧ ((∃ k : Nat, 14 ≤ k ∧ k ≤ 21 ∧ ps_wd t k ∧ x.toInt = (k : Int) - 14) ∨ (x.toInt = -1 ∧ ∀ k, 14 ≤ k → k ≤ 21 → ¬ ps_wd t k))) oo := by
    refine wk_entry (by rw [xm_b9e26c94]; exact Nat.le_of_ble_eq_true rfl) ?_
    rw [show cm_ent 125 [.inr (.inr (some 184))] = [some (.inr (.inr (some 184)))] from by unfold cm_ent; rw [xm_b9e26c94]; rfl]
    refine wk_aload_n xd_286ae941 rfl ?_
    refine aw_ldc2 xl_7d6508b1 rfl xd_b70ab306 ?_
    obtain ⟨xw14_4, hCw14_4, hxw14_4⟩ := mw_ok (w := w) (l := (Int64.ofNat 6909036)) (c := tx_rw.getD 14 0) (by decide) (tx_rw32 (by omega)) hC0
    refine wk_call (kd := 0) (i := 210) xd_e6f2e149 rfl (wk_cal (as := [.inr (.inr (some 184)), .inr (.inl (Int64.ofNat 6909036))]) (t := []) xl_937ea82b rfl xn_94b640da xc_24159032 rfl rfl xv_bdbd9e17 rfl) (cm_C_mono (by omega) hCw14_4) ?_
    rcases hxw14_4 with ⟨hxw14_4, huw14_4⟩ | ⟨hxw14_4, huw14_4⟩
    · skip
      refine wk_if xd_bd698157 (t := 14) rfl (fun h => absurd (aw_eq_t hxw14_4 hb_z h) (by omega)) (fun _ => ?_)
      refine wk_iconst xd_b0dc7ab0 ?_
      refine wk_goto xd_851059d7 (t := 115) rfl ?_
      exact wk_ireturn xd_1f042950 xr_97a83e7e rfl ⟨_, rfl, .inl ⟨14, by omega, by omega, huw14_4, by decide⟩⟩
    · skip
      refine wk_if xd_bd698157 (t := 14) rfl (fun _ => ?_) (fun h => absurd (aw_eq_f hxw14_4 hb_z h) (by omega))
      refine wk_aload_n xd_89c76737 rfl ?_
      refine aw_ldc2 xl_2d034957 rfl xd_740d99e1 ?_
      obtain ⟨xw15_18, hCw15_18, hxw15_18⟩ := mw_ok (w := w) (l := (Int64.ofNat 1870095731)) (c := tx_rw.getD 15 0) (by decide) (tx_rw32 (by omega)) hC0
      refine wk_call (kd := 0) (i := 210) xd_cb1e1a6f rfl (wk_cal (as := [.inr (.inr (some 184)), .inr (.inl (Int64.ofNat 1870095731))]) (t := []) xl_937ea82b rfl xn_94b640da xc_24159032 rfl rfl xv_bdbd9e17 rfl) (cm_C_mono (by omega) hCw15_18) ?_
      rcases hxw15_18 with ⟨hxw15_18, huw15_18⟩ | ⟨hxw15_18, huw15_18⟩
      · skip
        refine wk_if xd_46ac9928 (t := 28) rfl (fun h => absurd (aw_eq_t hxw15_18 hb_z h) (by omega)) (fun _ => ?_)
        refine wk_iconst xd_a7f8f93d ?_
        refine wk_goto xd_bdeb6a37 (t := 115) rfl ?_
        exact wk_ireturn xd_1f042950 xr_97a83e7e rfl ⟨_, rfl, .inl ⟨15, by omega, by omega, huw15_18, by decide⟩⟩
      · skip
        refine wk_if xd_46ac9928 (t := 28) rfl (fun _ => ?_) (fun h => absurd (aw_eq_f hxw15_18 hb_z h) (by omega))
        refine wk_aload_n xd_d13c2caa rfl ?_
        refine aw_ldc2 xl_7ef0fdd3 rfl xd_45db3332 ?_
        obtain ⟨xw16_32, hCw16_32, hxw16_32⟩ := mw_ok (w := w) (l := (Int64.ofNat 1818848101)) (c := tx_rw.getD 16 0) (by decide) (tx_rw32 (by omega)) hC0
        refine wk_call (kd := 0) (i := 210) xd_992b8050 rfl (wk_cal (as := [.inr (.inr (some 184)), .inr (.inl (Int64.ofNat 1818848101))]) (t := []) xl_937ea82b rfl xn_94b640da xc_24159032 rfl rfl xv_bdbd9e17 rfl) (cm_C_mono (by omega) hCw16_32) ?_
        rcases hxw16_32 with ⟨hxw16_32, huw16_32⟩ | ⟨hxw16_32, huw16_32⟩
        · skip
          refine wk_if xd_02b414b7 (t := 42) rfl (fun h => absurd (aw_eq_t hxw16_32 hb_z h) (by omega)) (fun _ => ?_)
          refine wk_iconst xd_9ec9dc39 ?_
          refine wk_goto xd_288297ea (t := 115) rfl ?_
          exact wk_ireturn xd_1f042950 xr_97a83e7e rfl ⟨_, rfl, .inl ⟨16, by omega, by omega, huw16_32, by decide⟩⟩
        · skip
          refine wk_if xd_02b414b7 (t := 42) rfl (fun _ => ?_) (fun h => absurd (aw_eq_f hxw16_32 hb_z h) (by omega))
          refine wk_aload_n xd_8c2eee35 rfl ?_
          refine aw_ldc2 xl_708d0f2a rfl xd_de1a3741 ?_
          obtain ⟨xw17_46, hCw17_46, hxw17_46⟩ := mw_ok (w := w) (l := (Int64.ofNat 26990)) (c := tx_rw.getD 17 0) (by decide) (tx_rw32 (by omega)) hC0
          refine wk_call (kd := 0) (i := 210) xd_1a213181 rfl (wk_cal (as := [.inr (.inr (some 184)), .inr (.inl (Int64.ofNat 26990))]) (t := []) xl_937ea82b rfl xn_94b640da xc_24159032 rfl rfl xv_bdbd9e17 rfl) (cm_C_mono (by omega) hCw17_46) ?_
          rcases hxw17_46 with ⟨hxw17_46, huw17_46⟩ | ⟨hxw17_46, huw17_46⟩
          · skip
            refine wk_if xd_afdce953 (t := 56) rfl (fun h => absurd (aw_eq_t hxw17_46 hb_z h) (by omega)) (fun _ => ?_)
            refine wk_iconst xd_d9706873 ?_
            refine wk_goto xd_a599b004 (t := 115) rfl ?_
            exact wk_ireturn xd_1f042950 xr_97a83e7e rfl ⟨_, rfl, .inl ⟨17, by omega, by omega, huw17_46, by decide⟩⟩
          · skip
            refine wk_if xd_afdce953 (t := 56) rfl (fun _ => ?_) (fun h => absurd (aw_eq_f hxw17_46 hb_z h) (by omega))
            refine wk_aload_n xd_0d572a81 rfl ?_
            refine aw_ldc2 xl_ed84af8d rfl xd_68576a70 ?_
            obtain ⟨xw18_60, hCw18_60, hxw18_60⟩ := mw_ok (w := w) (l := (Int64.ofNat 1684108389)) (c := tx_rw.getD 18 0) (by decide) (tx_rw32 (by omega)) hC0
            refine wk_call (kd := 0) (i := 210) xd_04b44e72 rfl (wk_cal (as := [.inr (.inr (some 184)), .inr (.inl (Int64.ofNat 1684108389))]) (t := []) xl_937ea82b rfl xn_94b640da xc_24159032 rfl rfl xv_bdbd9e17 rfl) (cm_C_mono (by omega) hCw18_60) ?_
            rcases hxw18_60 with ⟨hxw18_60, huw18_60⟩ | ⟨hxw18_60, huw18_60⟩
            · skip
              refine wk_if xd_32a7b902 (t := 70) rfl (fun h => absurd (aw_eq_t hxw18_60 hb_z h) (by omega)) (fun _ => ?_)
              refine wk_iconst xd_41141e5e ?_
              refine wk_goto xd_8960a055 (t := 115) rfl ?_
              exact wk_ireturn xd_1f042950 xr_97a83e7e rfl ⟨_, rfl, .inl ⟨18, by omega, by omega, huw18_60, by decide⟩⟩
            · skip
              refine wk_if xd_32a7b902 (t := 70) rfl (fun _ => ?_) (fun h => absurd (aw_eq_f hxw18_60 hb_z h) (by omega))
              refine wk_aload_n xd_39a694f4 rfl ?_
              refine aw_ldc2 xl_f1ad4133 rfl xd_c74cebdd ?_
              obtain ⟨xw19_74, hCw19_74, hxw19_74⟩ := mw_ok (w := w) (l := (Int64.ofNat 114853572732274)) (c := tx_rw.getD 19 0) (by decide) (tx_rw32 (by omega)) hC0
              refine wk_call (kd := 0) (i := 210) xd_cef1e89c rfl (wk_cal (as := [.inr (.inr (some 184)), .inr (.inl (Int64.ofNat 114853572732274))]) (t := []) xl_937ea82b rfl xn_94b640da xc_24159032 rfl rfl xv_bdbd9e17 rfl) (cm_C_mono (by omega) hCw19_74) ?_
              rcases hxw19_74 with ⟨hxw19_74, huw19_74⟩ | ⟨hxw19_74, huw19_74⟩
              · skip
                refine wk_if xd_76bf349d (t := 84) rfl (fun h => absurd (aw_eq_t hxw19_74 hb_z h) (by omega)) (fun _ => ?_)
                refine wk_iconst xd_e3f65c32 ?_
                refine wk_goto xd_6c1a04aa (t := 115) rfl ?_
                exact wk_ireturn xd_1f042950 xr_97a83e7e rfl ⟨_, rfl, .inl ⟨19, by omega, by omega, huw19_74, by decide⟩⟩
              · skip
                refine wk_if xd_76bf349d (t := 84) rfl (fun _ => ?_) (fun h => absurd (aw_eq_f hxw19_74 hb_z h) (by omega))
                refine wk_aload_n xd_daef3eae rfl ?_
                refine aw_ldc2 xl_0673c3a3 rfl xd_36d149fd ?_
                obtain ⟨xw20_88, hCw20_88, hxw20_88⟩ := mw_ok (w := w) (l := (Int64.ofNat 1668245870)) (c := tx_rw.getD 20 0) (by decide) (tx_rw32 (by omega)) hC0
                refine wk_call (kd := 0) (i := 210) xd_d9d02b91 rfl (wk_cal (as := [.inr (.inr (some 184)), .inr (.inl (Int64.ofNat 1668245870))]) (t := []) xl_937ea82b rfl xn_94b640da xc_24159032 rfl rfl xv_bdbd9e17 rfl) (cm_C_mono (by omega) hCw20_88) ?_
                rcases hxw20_88 with ⟨hxw20_88, huw20_88⟩ | ⟨hxw20_88, huw20_88⟩
                · skip
                  refine wk_if xd_b5eaf5b0 (t := 99) rfl (fun h => absurd (aw_eq_t hxw20_88 hb_z h) (by omega)) (fun _ => ?_)
                  refine wk_bipush xd_83da000c ?_
                  refine wk_goto xd_a78d8388 (t := 115) rfl ?_
                  exact wk_ireturn xd_1f042950 xr_97a83e7e rfl ⟨_, rfl, .inl ⟨20, by omega, by omega, huw20_88, by decide⟩⟩
                · skip
                  refine wk_if xd_b5eaf5b0 (t := 99) rfl (fun _ => ?_) (fun h => absurd (aw_eq_f hxw20_88 hb_z h) (by omega))
                  refine wk_aload_n xd_c05c53e8 rfl ?_
                  refine aw_ldc2 xl_d8263d6e rfl xd_c5110452 ?_
                  obtain ⟨xw21_103, hCw21_103, hxw21_103⟩ := mw_ok (w := w) (l := (Int64.ofNat 121450625394034)) (c := tx_rw.getD 21 0) (by decide) (tx_rw32 (by omega)) hC0
                  refine wk_call (kd := 0) (i := 210) xd_1e6d2746 rfl (wk_cal (as := [.inr (.inr (some 184)), .inr (.inl (Int64.ofNat 121450625394034))]) (t := []) xl_937ea82b rfl xn_94b640da xc_24159032 rfl rfl xv_bdbd9e17 rfl) (cm_C_mono (by omega) hCw21_103) ?_
                  rcases hxw21_103 with ⟨hxw21_103, huw21_103⟩ | ⟨hxw21_103, huw21_103⟩
                  · skip
                    refine wk_if xd_bfe1b008 (t := 114) rfl (fun h => absurd (aw_eq_t hxw21_103 hb_z h) (by omega)) (fun _ => ?_)
                    refine wk_bipush xd_764b7e6b ?_
                    refine wk_goto xd_c8d74d2a (t := 115) rfl ?_
                    exact wk_ireturn xd_1f042950 xr_97a83e7e rfl ⟨_, rfl, .inl ⟨21, by omega, by omega, huw21_103, by decide⟩⟩
                  · skip
                    refine wk_if xd_bfe1b008 (t := 114) rfl (fun _ => ?_) (fun h => absurd (aw_eq_f hxw21_103 hb_z h) (by omega))
                    refine wk_iconst xd_f6d78f9c ?_
                    refine wk_ireturn xd_1f042950 xr_97a83e7e rfl ⟨_, rfl, .inr ⟨by decide, fun k a b z => ?_⟩⟩
                    rcases (show k = 14 ∨ k = 15 ∨ k = 16 ∨ k = 17 ∨ k = 18 ∨ k = 19 ∨ k = 20 ∨ k = 21 by omega) with rfl | rfl | rfl | rfl | rfl | rfl | rfl | rfl
                    · exact huw14_4 z
                    · exact huw15_18 z
                    · exact huw16_32 z
                    · exact huw17_46 z
                    · exact huw18_60 z
                    · exact huw19_74 z
                    · exact huw20_88 z
                    · exact huw21_103 z
  obtain ⟨oo, hC, x, rfl, a⟩ := h9
  exact ⟨x, hC, a⟩
theorem sr_code {w : cm_W} {va vb vd : Int32} {c : Nat} (hc : (w.1 184 39).toInt = (c : Int)) (hc44 : c ≤ 44) : ∃ w', cm_C 1 247 [.inr (.inr (some 184)), .inl va, .inl vb, .inl vd] w (none, w') ∧ (∀ k i, ¬ (k = 184 ∧ i = 39) → k ≠ 188 → w'.1 k i = w.1 k i) ∧ w'.2 = w.2 ∧ (w'.1 184 39).toInt = ((c + 1 : Nat) : Int) := by
  have h9 : ∃ oo, cm_C (0 + 1) 247 [.inr (.inr (some 184)), .inl va, .inl vb, .inl vd] w oo ∧ (fun oo : cm_O => ∃ w', oo = (none, w') ∧ (∀ k i, ¬ (k = 184 ∧ i = 39) → k ≠ 188 → w'.1 k i = w.1 k i) ∧ w'.2 = w.2 ∧ (w'.1 184 39).toInt = ((c + 1 : Nat) : Int)) oo := by
    refine wk_entry (by rw [xm_54f932fb]; exact Nat.le_of_ble_eq_true rfl) ?_
    rw [show cm_ent 247 [.inr (.inr (some 184)), .inl va, .inl vb, .inl vd] = [some (.inr (.inr (some 184))), some (.inl va), some (.inl vb), some (.inl vd)] from by unfold cm_ent; rw [xm_54f932fb]; rfl]
    refine wk_aload_n xd_83a7f8ce rfl ?_
    refine wk_getR xf_956f4286 xd_6d1323b0 ?_
    refine wk_iconst xd_974ddeee ?_
    refine wk_aload_n xd_1888b389 rfl ?_
    refine wk_getI xf_8de35020 xd_70d452b1 ?_
    refine aw_imul (a := (3 : Int)) (b := ((c : Int) : Int)) (e := (3 * (c : Int) : Int)) xd_d7de45ce (show ((Int32.ofInt 3)).toInt = 3 from by decide) (show ((w.1 184 39)).toInt = ((c : Int) : Int) from hc) (by omega) (by omega) (by omega) (fun v1_ p1_ => ?_)
    refine wk_iload_n xd_93546fd9 rfl ?_
    refine aw_iastore (i := (3 * c)) xf_659780ae p1_ (by omega) (by omega) xd_965093e4 ?_
    refine wk_aload_n xd_19a146ed rfl ?_
    refine wk_getR xf_956f4286 xd_ff63505c ?_
    refine wk_iconst xd_2e404b6f ?_
    refine wk_aload_n xd_828e0daa rfl ?_
    refine wk_getI xf_8de35020 xd_a64737f3 ?_
    refine aw_imul (a := (3 : Int)) (b := ((c : Int) : Int)) (e := (3 * (c : Int) : Int)) xd_a9e4c0d7 (show ((Int32.ofInt 3)).toInt = 3 from by decide) (show (((cm_u1 w 188 (3 * c) va).1 184 39)).toInt = ((c : Int) : Int) from hc) (by omega) (by omega) (by omega) (fun v2_ p2_ => ?_)
    refine wk_iconst xd_7ec4b232 ?_
    refine aw_iadd (a := (3 * (c : Int) : Int)) (b := (1 : Int)) (e := (3 * (c : Int) + 1 : Int)) xd_936a5bdf p2_ (show ((Int32.ofInt 1)).toInt = 1 from by decide) (by omega) (by omega) (by omega) (fun v3_ p3_ => ?_)
    refine wk_iload_n xd_8cb61db2 rfl ?_
    refine aw_iastore (i := (1 + 3 * c)) xf_659780ae p3_ (by omega) (by omega) xd_bdd13a1f ?_
    refine wk_aload_n xd_41e34e56 rfl ?_
    refine wk_getR xf_956f4286 xd_f689f75f ?_
    refine wk_iconst xd_b127c206 ?_
    refine wk_aload_n xd_b67fb3df rfl ?_
    refine wk_getI xf_8de35020 xd_3b3c67a2 ?_
    refine aw_imul (a := (3 : Int)) (b := ((c : Int) : Int)) (e := (3 * (c : Int) : Int)) xd_75ae9789 (show ((Int32.ofInt 3)).toInt = 3 from by decide) (show (((cm_u1 (cm_u1 w 188 (3 * c) va) 188 (1 + 3 * c) vb).1 184 39)).toInt = ((c : Int) : Int) from hc) (by omega) (by omega) (by omega) (fun v4_ p4_ => ?_)
    refine wk_iconst xd_feb6b136 ?_
    refine aw_iadd (a := (3 * (c : Int) : Int)) (b := (2 : Int)) (e := (3 * (c : Int) + 2 : Int)) xd_4f200c81 p4_ (show ((Int32.ofInt 2)).toInt = 2 from by decide) (by omega) (by omega) (by omega) (fun v5_ p5_ => ?_)
    refine wk_iload_n xd_3016b390 rfl ?_
    refine aw_iastore (i := (2 + 3 * c)) xf_659780ae p5_ (by omega) (by omega) xd_9df25312 ?_
    refine wk_aload_n xd_1c146e7c rfl ?_
    refine wk_dup_r xd_cd713c3f ?_
    refine wk_getI xf_8de35020 xd_e9e92124 ?_
    refine wk_iconst xd_f6d7fe08 ?_
    refine aw_iadd (a := ((c : Int) : Int)) (b := (1 : Int)) (e := ((c : Int) + 1 : Int)) xd_ea4c312b (show (((cm_u1 (cm_u1 (cm_u1 w 188 (3 * c) va) 188 (1 + 3 * c) vb) 188 (2 + 3 * c) vd).1 184 39)).toInt = ((c : Int) : Int) from hc) (show ((Int32.ofInt 1)).toInt = 1 from by decide) (by omega) (by omega) (by omega) (fun v6_ p6_ => ?_)
    refine wk_putI xf_ff72707e (fun ci => wk_fitI ci) xd_7bdc48c9 ?_
    exact wk_return xd_e0509211 xr_571676a9 ⟨_, rfl, fun k i h1 h2 => by rw [hs_u1_ne (by omega), hs_u1_ne (by omega), hs_u1_ne (by omega), hs_u1_ne (by omega)], rfl, by rw [hs_u1_self, p6_]; omega⟩
  obtain ⟨oo, hC, w', rfl, a⟩ := h9
  exact ⟨w', hC, a⟩
/-- no such sign stands on top -/
def sr_h (P : Nat → Prop) (s : List Nat) : Prop := ∀ a r, s = a :: r → ¬ P a
theorem sr_nl {s : List Nat} {d : Nat} (hs : sr_h (fun a => a = 20) s) (Q : cm_O → Prop) : ∀ (l : List Nat), (∀ a, a ∈ l → a = 20) → ∀ (c : Nat) (w : cm_W), sr_K w (l ++ s) → (w.1 184 41).toInt = ((l ++ s).length : Int) → (w.1 184 42).toInt = ((d + l.length : Nat) : Int) → (w.1 184 39).toInt = (c : Int) → c + l.length ≤ 45 → (l ++ s).length ≤ 44 → (∀ w' : cm_W, (∀ k i, ¬ (k = 184 ∧ (i = 39 ∨ i = 41 ∨ i = 42)) → k ≠ 188 → w'.1 k i = w.1 k i) → w'.2 = w.2 → (w'.1 184 41).toInt = (s.length : Int) → (w'.1 184 42).toInt = (d : Int) → (w'.1 184 39).toInt = ((c + l.length : Nat) : Int) → Q (none, w')) → cm_X (cm_C 1) 276 0 [some (.inr (.inr (some 184)))] [] w Q := by
  intro l
  induction l with
  | nil =>
    intro _ c w hK ht hd hc hc45 hS44 hQ
    match s, hs, hK, ht, hS44, hQ with
    | [], hs, hK, ht, hS44, hQ =>
      refine wk_aload_n xd_d72e739a rfl ?_
      refine wk_getI xf_de6de123 xd_f6cdda1e ?_
      refine wk_if xd_36419b8e (t := 54) rfl (fun _ => ?_) (fun h => absurd (aw_le_f (show ((w.1 184 41)).toInt = (0 : Int) from ht) hb_z h) (by omega))
      exact wk_return xd_a575eb5c xr_a2314af2 (hQ w (fun _ _ _ _ => rfl) rfl ht hd hc)
    | A :: r, hs, hK, ht, hS44, hQ =>
      have hA : (w.1 199 r.length).toInt = (A : Int) := hK.1
      have hne : A ≠ 20 := hs A r rfl
      obtain ⟨S0, hS0⟩ : ∃ S0, S0 = r.length := ⟨_, rfl⟩
      have ht9 := ht
      rw [← hS0] at hA
      have ht : (w.1 184 41).toInt = (S0 : Int) + 1 := by rw [ht9, hS0]; rfl
      have hQ : ∀ w' : cm_W, (∀ k i, ¬ (k = 184 ∧ (i = 39 ∨ i = 41 ∨ i = 42)) → k ≠ 188 → w'.1 k i = w.1 k i) → w'.2 = w.2 → (w'.1 184 41).toInt = (S0 : Int) + 1 → (w'.1 184 42).toInt = (d : Int) → (w'.1 184 39).toInt = (c : Int) → Q (none, w') := fun w' a1 a2 a3 a4 a5 => hQ w' a1 a2 (a3.trans (by rw [hS0]; rfl)) a4 a5
      have hbd : S0 + 1 ≤ 44 := by rw [hS0]; exact hS44
      refine wk_aload_n xd_d72e739a rfl ?_
      refine wk_getI xf_de6de123 xd_f6cdda1e ?_
      refine wk_if xd_36419b8e (t := 54) rfl (fun h4_1 => ?_) (fun h4_1 => ?_)
      · have h4_1 := aw_le_t (a := ((S0 : Int) + 1 : Int)) (b := (0 : Int)) (show ((w.1 184 41)).toInt = ((S0 : Int) + 1 : Int) from ht) hb_z h4_1
        exfalso
        omega
      · have h4_1 := aw_le_f (a := ((S0 : Int) + 1 : Int)) (b := (0 : Int)) (show ((w.1 184 41)).toInt = ((S0 : Int) + 1 : Int) from ht) hb_z h4_1
        refine wk_aload_n xd_a197eb34 rfl ?_
        refine wk_getR xf_008d46fe xd_37ec7603 ?_
        refine wk_aload_n xd_031663b6 rfl ?_
        refine wk_getI xf_de6de123 xd_b01084ee ?_
        refine wk_iconst xd_39713e1b ?_
        refine aw_isub (a := ((S0 : Int) + 1 : Int)) (b := (1 : Int)) (e := ((S0 : Int) : Int)) xd_02804815 (show ((w.1 184 41)).toInt = ((S0 : Int) + 1 : Int) from ht) (show ((Int32.ofInt 1)).toInt = 1 from by decide) (by omega) (by omega) (by omega) (fun v3_ p3_ => ?_)
        refine aw_iaload (i := S0) xf_80f5fdb6 p3_ (by omega) (by omega) xd_dce1e990 ?_
        refine wk_bipush xd_98504bae ?_
        refine wk_icmp xd_e06b29eb (t := 54) rfl (fun h20_3 => ?_) (fun h20_3 => ?_)
        · have h20_3 := aw_ne_t (a := ((A : Int) : Int)) (b := (20 : Int)) (show ((w.1 199 S0)).toInt = ((A : Int) : Int) from hA) (show (((Int8.ofInt 20).toInt32)).toInt = 20 from by decide) h20_3
          exact wk_return xd_a575eb5c xr_a2314af2 (hQ w (fun _ _ _ _ => rfl) rfl ht hd hc)
        · have h20_3 := aw_ne_f (a := ((A : Int) : Int)) (b := (20 : Int)) (show ((w.1 199 S0)).toInt = ((A : Int) : Int) from hA) (show (((Int8.ofInt 20).toInt32)).toInt = 20 from by decide) h20_3
          exfalso
          omega
  | cons A l ih =>
    intro hl c w hK ht hd hc hc45 hS44 hQ
    have hA20 : A = 20 := hl A List.mem_cons_self
    have ih := ih (fun a ha => hl a (List.mem_cons_of_mem _ ha))
    have hA : (w.1 199 (l ++ s).length).toInt = 20 := by
      have := hK.1
      rw [hA20] at this
      exact this
    obtain ⟨S0, hS0⟩ : ∃ S0, S0 = (l ++ s).length := ⟨_, rfl⟩
    obtain ⟨d0, hd0⟩ : ∃ d0, d0 = d + l.length := ⟨_, rfl⟩
    rw [← hS0] at hA
    have ht : (w.1 184 41).toInt = (S0 : Int) + 1 := by rw [ht, hS0]; rfl
    have hl1 : (A :: l).length = l.length + 1 := rfl
    rw [hl1] at hd hc45 hQ
    have hd : (w.1 184 42).toInt = (d0 : Int) + 1 := by rw [hd, hd0]; omega
    have hd9 := Int32.toInt_lt (w.1 184 42)
    have hbd : S0 + 1 ≤ 44 := by rw [hS0]; exact hS44
    refine wk_aload_n xd_d72e739a rfl ?_
    refine wk_getI xf_de6de123 xd_f6cdda1e ?_
    refine wk_if xd_36419b8e (t := 54) rfl (fun h4_0 => ?_) (fun h4_0 => ?_)
    · have h4_0 := aw_le_t (a := ((S0 : Int) + 1 : Int)) (b := (0 : Int)) (show ((w.1 184 41)).toInt = ((S0 : Int) + 1 : Int) from ht) hb_z h4_0
      exfalso
      omega
    · have h4_0 := aw_le_f (a := ((S0 : Int) + 1 : Int)) (b := (0 : Int)) (show ((w.1 184 41)).toInt = ((S0 : Int) + 1 : Int) from ht) hb_z h4_0
      refine wk_aload_n xd_a197eb34 rfl ?_
      refine wk_getR xf_008d46fe xd_37ec7603 ?_
      refine wk_aload_n xd_031663b6 rfl ?_
      refine wk_getI xf_de6de123 xd_b01084ee ?_
      refine wk_iconst xd_39713e1b ?_
      refine aw_isub (a := ((S0 : Int) + 1 : Int)) (b := (1 : Int)) (e := ((S0 : Int) : Int)) xd_02804815 (show ((w.1 184 41)).toInt = ((S0 : Int) + 1 : Int) from ht) (show ((Int32.ofInt 1)).toInt = 1 from by decide) (by omega) (by omega) (by omega) (fun v2_ p2_ => ?_)
      refine aw_iaload (i := S0) xf_80f5fdb6 p2_ (by omega) (by omega) xd_dce1e990 ?_
      refine wk_bipush xd_98504bae ?_
      refine wk_icmp xd_e06b29eb (t := 54) rfl (fun h => absurd (aw_ne_t (show ((w.1 199 S0)).toInt = (20 : Int) from hA) (show (((Int8.ofInt 20).toInt32)).toInt = 20 from by decide) h) (by omega)) (fun _ => ?_)
      refine wk_aload_n xd_b69e1977 rfl ?_
      refine wk_dup_r xd_910142e8 ?_
      refine wk_getI xf_de6de123 xd_db47d20b ?_
      refine wk_iconst xd_bd5ed6e6 ?_
      refine aw_isub (a := ((S0 : Int) + 1 : Int)) (b := (1 : Int)) (e := ((S0 : Int) : Int)) xd_57a96ad4 (show ((w.1 184 41)).toInt = ((S0 : Int) + 1 : Int) from ht) (show ((Int32.ofInt 1)).toInt = 1 from by decide) (by omega) (by omega) (by omega) (fun v4_ p4_ => ?_)
      refine wk_putI xf_acfcc17d (fun ci => wk_fitI ci) xd_27fea0a7 ?_
      refine wk_aload_n xd_37bb7c50 rfl ?_
      refine wk_dup_r xd_7e53f409 ?_
      refine wk_getI xf_15c8266b xd_07eb155a ?_
      refine wk_iconst xd_262d3c32 ?_
      refine aw_isub (a := ((d0 : Int) + 1 : Int)) (b := (1 : Int)) (e := ((d0 : Int) : Int)) xd_804bea8c (show (((cm_u1 w 184 41 v4_).1 184 42)).toInt = ((d0 : Int) + 1 : Int) from hd) (show ((Int32.ofInt 1)).toInt = 1 from by decide) (by omega) (by omega) (by omega) (fun v5_ p5_ => ?_)
      refine wk_putI xf_67590635 (fun ci => wk_fitI ci) xd_470b3a31 ?_
      refine wk_aload_n xd_06a34b27 rfl ?_
      refine wk_bipush xd_70965263 ?_
      refine wk_iconst xd_a646f1ac ?_
      refine wk_iconst xd_b16e956c ?_
      obtain ⟨wc, hCc, fc1, fc2, fc3⟩ := sr_code (w := (cm_u1 (cm_u1 w 184 41 v4_) 184 42 v5_)) (va := ((Int8.ofInt 20).toInt32)) (vb := (Int32.ofInt 0)) (vd := (Int32.ofInt 0)) (c := c) (show (((cm_u1 (cm_u1 w 184 41 v4_) 184 42 v5_).1 184 39)).toInt = ((c : Int) : Int) from hc) (by omega)
      refine wk_call (kd := 0) (i := 413) xd_13acc77e rfl (wk_cal (as := [.inr (.inr (some 184)), .inl ((Int8.ofInt 20).toInt32), .inl (Int32.ofInt 0), .inl (Int32.ofInt 0)]) (t := []) xl_668d32ca rfl xn_2844c07f xc_82edc90f rfl rfl xv_6dbeb463 rfl) (cm_C_mono (by omega) hCc) ?_
      refine wk_goto xd_563cd71c (t := 0) rfl ?_
      refine ih (c + 1) wc (sr_K_lt (w := w) _ (fun i _ => ?_) hK.2) ?_ ?_ fc3 (by omega) (by rw [← hS0]; omega) (fun w' a1 a2 a3 a4 a5 => ?_)
      · rw [fc1 199 i (by omega) (by omega), hs_u1_ne (by omega), hs_u1_ne (by omega)]
      · rw [fc1 184 41 (by omega) (by omega), hs_u1_ne (by omega), hs_u1_self, p4_]
        omega
      · rw [fc1 184 42 (by omega) (by omega), hs_u1_self, p5_]
        omega
      · refine hQ w' (fun k i k1 k2 => ?_) (a2.trans (fc2.trans rfl)) a3 a4 (a5.trans (by omega))
        rw [a1 k i k1 k2, fc1 k i (by omega) k2, hs_u1_ne (by omega), hs_u1_ne (by omega)]
theorem sr_jl {s : List Nat} (hs : sr_h (fun a => a = 21 ∨ a = 22) s) {vt : Int32} {till : Nat} (hvt : vt.toInt = (till : Int)) (ht2 : till = 21 ∨ till = 22) (Q : cm_O → Prop) : ∀ (J : List Nat), (∀ a, a ∈ J → a = 21 ∨ a = 22) → ∀ (c : Nat) (w : cm_W), sr_K w (J ++ s) → (w.1 184 41).toInt = ((J ++ s).length : Int) → (w.1 184 39).toInt = (c : Int) → c + J.length ≤ 45 → (J ++ s).length ≤ 44 → (∀ (w' : cm_W) (J' : List Nat), (∀ a, a ∈ J' → a = 21 ∨ a = 22) → J'.length ≤ J.length → (till = 22 → J' = []) → (∀ k i, ¬ (k = 184 ∧ (i = 39 ∨ i = 41)) → k ≠ 188 → w'.1 k i = w.1 k i) → w'.2 = w.2 → sr_K w' (J' ++ s) → (w'.1 184 41).toInt = ((J' ++ s).length : Int) → (w'.1 184 39).toInt = ((c + (J.length - J'.length) : Nat) : Int) → Q (none, w')) → cm_X (cm_C 1) 269 0 [some (.inr (.inr (some 184))), some (.inl vt)] [] w Q := by
  intro J
  induction J with
  | nil =>
    intro _ c w hK ht hc hc45 hS44 hQ
    have ht9 := ht
    match s, hs, hK, ht, ht9, hS44, hQ with
    | [], hs, hK, ht, ht9, hS44, hQ =>
      have ht : (w.1 184 41).toInt = 0 := ht
      refine wk_aload_n xd_34483e41 rfl ?_
      refine wk_getI xf_85500acd xd_9617f509 ?_
      refine wk_if xd_3e76d4b9 (t := 73) rfl (fun _ => ?_) (fun h => absurd (aw_le_f (show ((w.1 184 41)).toInt = (0 : Int) from ht) hb_z h) (by omega))
      exact wk_return xd_e7846d0c xr_6c6a4c1d (hQ w [] (fun a h => by cases h) (Nat.le_refl _) (fun _ => rfl) (fun _ _ _ _ => rfl) rfl hK ht9 (by rw [hc]; rfl))
    | A :: r, hs, hK, ht, ht9, hS44, hQ =>
      have hA : (w.1 199 r.length).toInt = (A : Int) := hK.1
      have hne := hs A r rfl
      have hne1 : A ≠ 21 := fun e => hne (.inl e)
      have hne2 : A ≠ 22 := fun e => hne (.inr e)
      obtain ⟨S0, hS0⟩ : ∃ S0, S0 = r.length := ⟨_, rfl⟩
      rw [← hS0] at hA
      have ht : (w.1 184 41).toInt = (S0 : Int) + 1 := by rw [ht9, hS0]; rfl
      have hbd : S0 + 1 ≤ 44 := by rw [hS0]; exact hS44
      refine wk_aload_n xd_34483e41 rfl ?_
      refine wk_getI xf_85500acd xd_9617f509 ?_
      refine wk_if xd_3e76d4b9 (t := 73) rfl (fun h4_1 => ?_) (fun h4_1 => ?_)
      · have h4_1 := aw_le_t (a := ((S0 : Int) + 1 : Int)) (b := (0 : Int)) (show ((w.1 184 41)).toInt = ((S0 : Int) + 1 : Int) from ht) hb_z h4_1
        exfalso
        omega
      · have h4_1 := aw_le_f (a := ((S0 : Int) + 1 : Int)) (b := (0 : Int)) (show ((w.1 184 41)).toInt = ((S0 : Int) + 1 : Int) from ht) hb_z h4_1
        refine wk_aload_n xd_42f1a6ef rfl ?_
        refine wk_getR xf_6a2c8461 xd_5d4db49c ?_
        refine wk_aload_n xd_12f40ea7 rfl ?_
        refine wk_getI xf_85500acd xd_33a3db06 ?_
        refine wk_iconst xd_da1773c0 ?_
        refine aw_isub (a := ((S0 : Int) + 1 : Int)) (b := (1 : Int)) (e := ((S0 : Int) : Int)) xd_4569ba81 (show ((w.1 184 41)).toInt = ((S0 : Int) + 1 : Int) from ht) (show ((Int32.ofInt 1)).toInt = 1 from by decide) (by omega) (by omega) (by omega) (fun v3_ p3_ => ?_)
        refine aw_iaload (i := S0) xf_80f5fdb6 p3_ (by omega) (by omega) xd_9a7f7257 ?_
        refine wk_bipush xd_b4d20f0f ?_
        refine wk_icmp xd_0180c4c0 (t := 45) rfl (fun h20_3 => ?_) (fun h20_3 => ?_)
        · have h20_3 := aw_eq_t (a := ((A : Int) : Int)) (b := (21 : Int)) (show ((w.1 199 S0)).toInt = ((A : Int) : Int) from hA) (show (((Int8.ofInt 21).toInt32)).toInt = 21 from by decide) h20_3
          exfalso
          omega
        · have h20_3 := aw_eq_f (a := ((A : Int) : Int)) (b := (21 : Int)) (show ((w.1 199 S0)).toInt = ((A : Int) : Int) from hA) (show (((Int8.ofInt 21).toInt32)).toInt = 21 from by decide) h20_3
          refine wk_aload_n xd_a77c7466 rfl ?_
          refine wk_getR xf_6a2c8461 xd_f3da525c ?_
          refine wk_aload_n xd_a720d5f5 rfl ?_
          refine wk_getI xf_85500acd xd_c0549016 ?_
          refine wk_iconst xd_6b203329 ?_
          refine aw_isub (a := ((S0 : Int) + 1 : Int)) (b := (1 : Int)) (e := ((S0 : Int) : Int)) xd_3a756b76 (show ((w.1 184 41)).toInt = ((S0 : Int) + 1 : Int) from ht) (show ((Int32.ofInt 1)).toInt = 1 from by decide) (by omega) (by omega) (by omega) (fun v5_ p5_ => ?_)
          refine aw_iaload (i := S0) xf_80f5fdb6 p5_ (by omega) (by omega) xd_30569873 ?_
          refine wk_bipush xd_2aac5b65 ?_
          refine wk_icmp xd_ac033263 (t := 73) rfl (fun h36_5 => ?_) (fun h36_5 => ?_)
          · have h36_5 := aw_ne_t (a := ((A : Int) : Int)) (b := (22 : Int)) (show ((w.1 199 S0)).toInt = ((A : Int) : Int) from hA) (show (((Int8.ofInt 22).toInt32)).toInt = 22 from by decide) h36_5
            exact wk_return xd_e7846d0c xr_6c6a4c1d (hQ w [] (fun a h => by cases h) (Nat.le_refl _) (fun _ => rfl) (fun _ _ _ _ => rfl) rfl hK ht9 (by rw [hc]; rfl))
          · have h36_5 := aw_ne_f (a := ((A : Int) : Int)) (b := (22 : Int)) (show ((w.1 199 S0)).toInt = ((A : Int) : Int) from hA) (show (((Int8.ofInt 22).toInt32)).toInt = 22 from by decide) h36_5
            exfalso
            omega
  | cons A l ih =>
    intro hl c w hK ht hc hc45 hS44 hQ
    have hl9 := hl
    have hK9 := hK
    have ht9 := ht
    have hA2 := hl A List.mem_cons_self
    have ih := ih (fun a ha => hl a (List.mem_cons_of_mem _ ha))
    obtain ⟨S0, hS0⟩ : ∃ S0, S0 = (l ++ s).length := ⟨_, rfl⟩
    have ht : (w.1 184 41).toInt = (S0 : Int) + 1 := by rw [ht, hS0]; rfl
    have hl1 : (A :: l).length = l.length + 1 := rfl
    rw [hl1] at hc45
    have hbd : S0 + 1 ≤ 44 := by rw [hS0]; exact hS44
    have hA : (w.1 199 (l ++ s).length).toInt = (A : Int) := hK.1
    rw [← hS0] at hA
    rcases hA2 with e21 | e22
    · have hA : (w.1 199 S0).toInt = 21 := by rw [hA, e21]; rfl
      rw [hl1] at hQ
      refine wk_aload_n xd_34483e41 rfl ?_
      refine wk_getI xf_85500acd xd_9617f509 ?_
      refine wk_if xd_3e76d4b9 (t := 73) rfl (fun h4_0 => ?_) (fun h4_0 => ?_)
      · have h4_0 := aw_le_t (a := ((S0 : Int) + 1 : Int)) (b := (0 : Int)) (show ((w.1 184 41)).toInt = ((S0 : Int) + 1 : Int) from ht) hb_z h4_0
        exfalso
        omega
      · have h4_0 := aw_le_f (a := ((S0 : Int) + 1 : Int)) (b := (0 : Int)) (show ((w.1 184 41)).toInt = ((S0 : Int) + 1 : Int) from ht) hb_z h4_0
        refine wk_aload_n xd_42f1a6ef rfl ?_
        refine wk_getR xf_6a2c8461 xd_5d4db49c ?_
        refine wk_aload_n xd_12f40ea7 rfl ?_
        refine wk_getI xf_85500acd xd_33a3db06 ?_
        refine wk_iconst xd_da1773c0 ?_
        refine aw_isub (a := ((S0 : Int) + 1 : Int)) (b := (1 : Int)) (e := ((S0 : Int) : Int)) xd_4569ba81 (show ((w.1 184 41)).toInt = ((S0 : Int) + 1 : Int) from ht) (show ((Int32.ofInt 1)).toInt = 1 from by decide) (by omega) (by omega) (by omega) (fun v2_ p2_ => ?_)
        refine aw_iaload (i := S0) xf_80f5fdb6 p2_ (by omega) (by omega) xd_9a7f7257 ?_
        refine wk_bipush xd_b4d20f0f ?_
        refine wk_icmp xd_0180c4c0 (t := 45) rfl (fun _ => ?_) (fun h => absurd (aw_eq_f (show ((w.1 199 S0)).toInt = (21 : Int) from hA) (show (((Int8.ofInt 21).toInt32)).toInt = 21 from by decide) h) (by omega))
        refine wk_aload_n xd_fa8b544c rfl ?_
        refine wk_dup_r xd_107c8544 ?_
        refine wk_getI xf_85500acd xd_f1e79b4b ?_
        refine wk_iconst xd_91c22593 ?_
        refine aw_isub (a := ((S0 : Int) + 1 : Int)) (b := (1 : Int)) (e := ((S0 : Int) : Int)) xd_4d2fbd07 (show ((w.1 184 41)).toInt = ((S0 : Int) + 1 : Int) from ht) (show ((Int32.ofInt 1)).toInt = 1 from by decide) (by omega) (by omega) (by omega) (fun v4_ p4_ => ?_)
        refine wk_putI xf_f7c12a93 (fun ci => wk_fitI ci) xd_0d5ee9e7 ?_
        refine wk_aload_n xd_7bae316b rfl ?_
        refine wk_aload_n xd_0d4b0856 rfl ?_
        refine wk_getR xf_6a2c8461 xd_1ef49f29 ?_
        refine wk_aload_n xd_b89fd304 rfl ?_
        refine wk_getI xf_85500acd xd_13217078 ?_
        refine aw_iaload (i := S0) xf_80f5fdb6 (show (((cm_u1 w 184 41 v4_).1 184 41)).toInt = ((S0 : Int) : Int) from p4_) (by omega) (by omega) xd_5c31b9c5 ?_
        refine wk_iconst xd_91cec2de ?_
        refine wk_iconst xd_a8b66f9e ?_
        obtain ⟨wc, hCc, fc1, fc2, fc3⟩ := sr_code (w := (cm_u1 w 184 41 v4_)) (va := ((cm_u1 w 184 41 v4_).1 199 S0)) (vb := (Int32.ofInt 0)) (vd := (Int32.ofInt 0)) (c := c) (show (((cm_u1 w 184 41 v4_).1 184 39)).toInt = ((c : Int) : Int) from hc) (by omega)
        refine wk_call (kd := 0) (i := 413) xd_289d0eff rfl (wk_cal (as := [.inr (.inr (some 184)), .inl ((cm_u1 w 184 41 v4_).1 199 S0), .inl (Int32.ofInt 0), .inl (Int32.ofInt 0)]) (t := []) xl_a9ff1d71 rfl xn_2844c07f xc_82edc90f rfl rfl xv_6dbeb463 rfl) (cm_C_mono (by omega) hCc) ?_
        refine wk_goto xd_711d9475 (t := 0) rfl ?_
        refine ih (c + 1) wc (sr_K_lt (w := w) _ (fun i _ => ?_) hK.2) ?_ fc3 (by omega) (by rw [← hS0]; omega) (fun w' J' a0 a1 a2 a3 a4 a5 a6 a7 => ?_)
        · rw [fc1 199 i (by omega) (by omega), hs_u1_ne (by omega)]
        · rw [fc1 184 41 (by omega) (by omega), hs_u1_self, p4_]
          omega
        · refine hQ w' J' a0 (by omega) a2 (fun k i k1 k2 => ?_) (a4.trans (fc2.trans rfl)) a5 a6 (a7.trans (by omega))
          rw [a3 k i k1 k2, fc1 k i (by omega) k2, hs_u1_ne (by omega)]
    · have hA : (w.1 199 S0).toInt = 22 := by rw [hA, e22]; rfl
      by_cases h22 : till = 22
      · rw [hl1] at hQ
        refine wk_aload_n xd_34483e41 rfl ?_
        refine wk_getI xf_85500acd xd_9617f509 ?_
        refine wk_if xd_3e76d4b9 (t := 73) rfl (fun h4_0 => ?_) (fun h4_0 => ?_)
        · have h4_0 := aw_le_t (a := ((S0 : Int) + 1 : Int)) (b := (0 : Int)) (show ((w.1 184 41)).toInt = ((S0 : Int) + 1 : Int) from ht) hb_z h4_0
          exfalso
          omega
        · have h4_0 := aw_le_f (a := ((S0 : Int) + 1 : Int)) (b := (0 : Int)) (show ((w.1 184 41)).toInt = ((S0 : Int) + 1 : Int) from ht) hb_z h4_0
          refine wk_aload_n xd_42f1a6ef rfl ?_
          refine wk_getR xf_6a2c8461 xd_5d4db49c ?_
          refine wk_aload_n xd_12f40ea7 rfl ?_
          refine wk_getI xf_85500acd xd_33a3db06 ?_
          refine wk_iconst xd_da1773c0 ?_
          refine aw_isub (a := ((S0 : Int) + 1 : Int)) (b := (1 : Int)) (e := ((S0 : Int) : Int)) xd_4569ba81 (show ((w.1 184 41)).toInt = ((S0 : Int) + 1 : Int) from ht) (show ((Int32.ofInt 1)).toInt = 1 from by decide) (by omega) (by omega) (by omega) (fun v2_ p2_ => ?_)
          refine aw_iaload (i := S0) xf_80f5fdb6 p2_ (by omega) (by omega) xd_9a7f7257 ?_
          refine wk_bipush xd_b4d20f0f ?_
          refine wk_icmp xd_0180c4c0 (t := 45) rfl (fun h => absurd (aw_eq_t (show ((w.1 199 S0)).toInt = (22 : Int) from hA) (show (((Int8.ofInt 21).toInt32)).toInt = 21 from by decide) h) (by omega)) (fun _ => ?_)
          refine wk_aload_n xd_a77c7466 rfl ?_
          refine wk_getR xf_6a2c8461 xd_f3da525c ?_
          refine wk_aload_n xd_a720d5f5 rfl ?_
          refine wk_getI xf_85500acd xd_c0549016 ?_
          refine wk_iconst xd_6b203329 ?_
          refine aw_isub (a := ((S0 : Int) + 1 : Int)) (b := (1 : Int)) (e := ((S0 : Int) : Int)) xd_3a756b76 (show ((w.1 184 41)).toInt = ((S0 : Int) + 1 : Int) from ht) (show ((Int32.ofInt 1)).toInt = 1 from by decide) (by omega) (by omega) (by omega) (fun v4_ p4_ => ?_)
          refine aw_iaload (i := S0) xf_80f5fdb6 p4_ (by omega) (by omega) xd_30569873 ?_
          refine wk_bipush xd_2aac5b65 ?_
          refine wk_icmp xd_ac033263 (t := 73) rfl (fun h => absurd (aw_ne_t (show ((w.1 199 S0)).toInt = (22 : Int) from hA) (show (((Int8.ofInt 22).toInt32)).toInt = 22 from by decide) h) (by omega)) (fun _ => ?_)
          refine wk_iload_n xd_ac157b53 rfl ?_
          refine wk_bipush xd_1be8cd81 ?_
          refine wk_icmp xd_d7f23a0a (t := 73) rfl (fun h42_5 => ?_) (fun h42_5 => ?_)
          · have h42_5 := aw_ne_t (a := ((till : Int) : Int)) (b := (22 : Int)) hvt (show (((Int8.ofInt 22).toInt32)).toInt = 22 from by decide) h42_5
            exfalso
            omega
          · have h42_5 := aw_ne_f (a := ((till : Int) : Int)) (b := (22 : Int)) hvt (show (((Int8.ofInt 22).toInt32)).toInt = 22 from by decide) h42_5
            refine wk_aload_n xd_fa8b544c rfl ?_
            refine wk_dup_r xd_107c8544 ?_
            refine wk_getI xf_85500acd xd_f1e79b4b ?_
            refine wk_iconst xd_91c22593 ?_
            refine aw_isub (a := ((S0 : Int) + 1 : Int)) (b := (1 : Int)) (e := ((S0 : Int) : Int)) xd_4d2fbd07 (show ((w.1 184 41)).toInt = ((S0 : Int) + 1 : Int) from ht) (show ((Int32.ofInt 1)).toInt = 1 from by decide) (by omega) (by omega) (by omega) (fun v7_ p7_ => ?_)
            refine wk_putI xf_f7c12a93 (fun ci => wk_fitI ci) xd_0d5ee9e7 ?_
            refine wk_aload_n xd_7bae316b rfl ?_
            refine wk_aload_n xd_0d4b0856 rfl ?_
            refine wk_getR xf_6a2c8461 xd_1ef49f29 ?_
            refine wk_aload_n xd_b89fd304 rfl ?_
            refine wk_getI xf_85500acd xd_13217078 ?_
            refine aw_iaload (i := S0) xf_80f5fdb6 (show (((cm_u1 w 184 41 v7_).1 184 41)).toInt = ((S0 : Int) : Int) from p7_) (by omega) (by omega) xd_5c31b9c5 ?_
            refine wk_iconst xd_91cec2de ?_
            refine wk_iconst xd_a8b66f9e ?_
            obtain ⟨wc, hCc, fc1, fc2, fc3⟩ := sr_code (w := (cm_u1 w 184 41 v7_)) (va := ((cm_u1 w 184 41 v7_).1 199 S0)) (vb := (Int32.ofInt 0)) (vd := (Int32.ofInt 0)) (c := c) (show (((cm_u1 w 184 41 v7_).1 184 39)).toInt = ((c : Int) : Int) from hc) (by omega)
            refine wk_call (kd := 0) (i := 413) xd_289d0eff rfl (wk_cal (as := [.inr (.inr (some 184)), .inl ((cm_u1 w 184 41 v7_).1 199 S0), .inl (Int32.ofInt 0), .inl (Int32.ofInt 0)]) (t := []) xl_a9ff1d71 rfl xn_2844c07f xc_82edc90f rfl rfl xv_6dbeb463 rfl) (cm_C_mono (by omega) hCc) ?_
            refine wk_goto xd_711d9475 (t := 0) rfl ?_
            refine ih (c + 1) wc (sr_K_lt (w := w) _ (fun i _ => ?_) hK.2) ?_ fc3 (by omega) (by rw [← hS0]; omega) (fun w' J' a0 a1 a2 a3 a4 a5 a6 a7 => ?_)
            · rw [fc1 199 i (by omega) (by omega), hs_u1_ne (by omega)]
            · rw [fc1 184 41 (by omega) (by omega), hs_u1_self, p7_]
              omega
            · refine hQ w' J' a0 (by omega) a2 (fun k i k1 k2 => ?_) (a4.trans (fc2.trans rfl)) a5 a6 (a7.trans (by omega))
              rw [a3 k i k1 k2, fc1 k i (by omega) k2, hs_u1_ne (by omega)]
      · skip
        refine wk_aload_n xd_34483e41 rfl ?_
        refine wk_getI xf_85500acd xd_9617f509 ?_
        refine wk_if xd_3e76d4b9 (t := 73) rfl (fun h4_0 => ?_) (fun h4_0 => ?_)
        · have h4_0 := aw_le_t (a := ((S0 : Int) + 1 : Int)) (b := (0 : Int)) (show ((w.1 184 41)).toInt = ((S0 : Int) + 1 : Int) from ht) hb_z h4_0
          exfalso
          omega
        · have h4_0 := aw_le_f (a := ((S0 : Int) + 1 : Int)) (b := (0 : Int)) (show ((w.1 184 41)).toInt = ((S0 : Int) + 1 : Int) from ht) hb_z h4_0
          refine wk_aload_n xd_42f1a6ef rfl ?_
          refine wk_getR xf_6a2c8461 xd_5d4db49c ?_
          refine wk_aload_n xd_12f40ea7 rfl ?_
          refine wk_getI xf_85500acd xd_33a3db06 ?_
          refine wk_iconst xd_da1773c0 ?_
          refine aw_isub (a := ((S0 : Int) + 1 : Int)) (b := (1 : Int)) (e := ((S0 : Int) : Int)) xd_4569ba81 (show ((w.1 184 41)).toInt = ((S0 : Int) + 1 : Int) from ht) (show ((Int32.ofInt 1)).toInt = 1 from by decide) (by omega) (by omega) (by omega) (fun v2_ p2_ => ?_)
          refine aw_iaload (i := S0) xf_80f5fdb6 p2_ (by omega) (by omega) xd_9a7f7257 ?_
          refine wk_bipush xd_b4d20f0f ?_
          refine wk_icmp xd_0180c4c0 (t := 45) rfl (fun h => absurd (aw_eq_t (show ((w.1 199 S0)).toInt = (22 : Int) from hA) (show (((Int8.ofInt 21).toInt32)).toInt = 21 from by decide) h) (by omega)) (fun _ => ?_)
          refine wk_aload_n xd_a77c7466 rfl ?_
          refine wk_getR xf_6a2c8461 xd_f3da525c ?_
          refine wk_aload_n xd_a720d5f5 rfl ?_
          refine wk_getI xf_85500acd xd_c0549016 ?_
          refine wk_iconst xd_6b203329 ?_
          refine aw_isub (a := ((S0 : Int) + 1 : Int)) (b := (1 : Int)) (e := ((S0 : Int) : Int)) xd_3a756b76 (show ((w.1 184 41)).toInt = ((S0 : Int) + 1 : Int) from ht) (show ((Int32.ofInt 1)).toInt = 1 from by decide) (by omega) (by omega) (by omega) (fun v4_ p4_ => ?_)
          refine aw_iaload (i := S0) xf_80f5fdb6 p4_ (by omega) (by omega) xd_30569873 ?_
          refine wk_bipush xd_2aac5b65 ?_
          refine wk_icmp xd_ac033263 (t := 73) rfl (fun h => absurd (aw_ne_t (show ((w.1 199 S0)).toInt = (22 : Int) from hA) (show (((Int8.ofInt 22).toInt32)).toInt = 22 from by decide) h) (by omega)) (fun _ => ?_)
          refine wk_iload_n xd_ac157b53 rfl ?_
          refine wk_bipush xd_1be8cd81 ?_
          refine wk_icmp xd_d7f23a0a (t := 73) rfl (fun h42_5 => ?_) (fun h42_5 => ?_)
          · have h42_5 := aw_ne_t (a := ((till : Int) : Int)) (b := (22 : Int)) hvt (show (((Int8.ofInt 22).toInt32)).toInt = 22 from by decide) h42_5
            exact wk_return xd_e7846d0c xr_6c6a4c1d (hQ w (A :: l) hl9 (Nat.le_refl _) (fun e => absurd e h22) (fun _ _ _ _ => rfl) rfl hK9 ht9 (by rw [hc]; omega))
          · have h42_5 := aw_ne_f (a := ((till : Int) : Int)) (b := (22 : Int)) hvt (show (((Int8.ofInt 22).toInt32)).toInt = 22 from by decide) h42_5
            exfalso
            omega
theorem sr_nots {s l : List Nat} {d c : Nat} {w : cm_W} (hs : sr_h (fun a => a = 20) s) (hl : ∀ a, a ∈ l → a = 20) (hK : sr_K w (l ++ s)) (ht : (w.1 184 41).toInt = ((l ++ s).length : Int)) (hd : (w.1 184 42).toInt = ((d + l.length : Nat) : Int)) (hc : (w.1 184 39).toInt = (c : Int)) (h45 : c + l.length ≤ 45) (h44 : (l ++ s).length ≤ 44) : ∃ w', cm_C 2 276 [.inr (.inr (some 184))] w (none, w') ∧ (∀ k i, ¬ (k = 184 ∧ (i = 39 ∨ i = 41 ∨ i = 42)) → k ≠ 188 → w'.1 k i = w.1 k i) ∧ w'.2 = w.2 ∧ sr_K w' s ∧ (w'.1 184 41).toInt = (s.length : Int) ∧ (w'.1 184 42).toInt = (d : Int) ∧ (w'.1 184 39).toInt = ((c + l.length : Nat) : Int) := by
  have h9 : ∃ oo, cm_C (1 + 1) 276 [.inr (.inr (some 184))] w oo ∧ (fun oo : cm_O => ∃ w', oo = (none, w') ∧ (∀ k i, ¬ (k = 184 ∧ (i = 39 ∨ i = 41 ∨ i = 42)) → k ≠ 188 → w'.1 k i = w.1 k i) ∧ w'.2 = w.2 ∧ sr_K w' s ∧ (w'.1 184 41).toInt = (s.length : Int) ∧ (w'.1 184 42).toInt = (d : Int) ∧ (w'.1 184 39).toInt = ((c + l.length : Nat) : Int)) oo := by
    refine wk_entry (by rw [xm_9f679d6a]; exact Nat.le_of_ble_eq_true rfl) ?_
    rw [show cm_ent 276 [.inr (.inr (some 184))] = [some (.inr (.inr (some 184)))] from by unfold cm_ent; rw [xm_9f679d6a]; rfl]
    exact sr_nl hs _ l hl c w hK ht hd hc h45 h44 (fun w' a1 a2 a3 a4 a5 => ⟨w', rfl, a1, a2, sr_K_lt (w := w) s (fun i _ => a1 199 i (by omega) (by omega)) (sr_K_app l hK), a3, a4, a5⟩)
  obtain ⟨oo, hC, w', rfl, a⟩ := h9
  exact ⟨w', hC, a⟩
theorem sr_joins {s J : List Nat} {c till : Nat} {vt : Int32} {w : cm_W} (hs : sr_h (fun a => a = 21 ∨ a = 22) s) (hvt : vt.toInt = (till : Int)) (ht2 : till = 21 ∨ till = 22) (hJ : ∀ a, a ∈ J → a = 21 ∨ a = 22) (hK : sr_K w (J ++ s)) (ht : (w.1 184 41).toInt = ((J ++ s).length : Int)) (hc : (w.1 184 39).toInt = (c : Int)) (h45 : c + J.length ≤ 45) (h44 : (J ++ s).length ≤ 44) : ∃ (w' : cm_W) (J' : List Nat), cm_C 2 269 [.inr (.inr (some 184)), .inl vt] w (none, w') ∧ (∀ a, a ∈ J' → a = 21 ∨ a = 22) ∧ J'.length ≤ J.length ∧ (till = 22 → J' = []) ∧ ((∀ k i, ¬ (k = 184 ∧ (i = 39 ∨ i = 41)) → k ≠ 188 → w'.1 k i = w.1 k i) ∧ w'.2 = w.2) ∧ sr_K w' (J' ++ s) ∧ (w'.1 184 41).toInt = ((J' ++ s).length : Int) ∧ (w'.1 184 39).toInt = ((c + (J.length - J'.length) : Nat) : Int) := by
  have h9 : ∃ oo, cm_C (1 + 1) 269 [.inr (.inr (some 184)), .inl vt] w oo ∧ (fun oo : cm_O => ∃ (w' : cm_W) (J' : List Nat), oo = (none, w') ∧ (∀ a, a ∈ J' → a = 21 ∨ a = 22) ∧ J'.length ≤ J.length ∧ (till = 22 → J' = []) ∧ ((∀ k i, ¬ (k = 184 ∧ (i = 39 ∨ i = 41)) → k ≠ 188 → w'.1 k i = w.1 k i) ∧ w'.2 = w.2) ∧ sr_K w' (J' ++ s) ∧ (w'.1 184 41).toInt = ((J' ++ s).length : Int) ∧ (w'.1 184 39).toInt = ((c + (J.length - J'.length) : Nat) : Int)) oo := by
    refine wk_entry (by rw [xm_4f6288a4]; exact Nat.le_of_ble_eq_true rfl) ?_
    rw [show cm_ent 269 [.inr (.inr (some 184)), .inl vt] = [some (.inr (.inr (some 184))), some (.inl vt)] from by unfold cm_ent; rw [xm_4f6288a4]; rfl]
    exact sr_jl hs hvt ht2 _ J hJ c w hK ht hc h45 h44 (fun w' J' a0 a1 a2 a3 a4 a5 a6 a7 => ⟨w', J', rfl, a0, a1, a2, ⟨a3, a4⟩, a5, a6, a7⟩)
  obtain ⟨oo, hC, w', J', rfl, a⟩ := h9
  exact ⟨w', J', hC, a⟩
theorem sr_h20 {J s : List Nat} (hs : s = [] ∨ ∃ r, s = 23 :: r) (hJ : ∀ a, a ∈ J → a = 21 ∨ a = 22) : sr_h (fun a => a = 20) (J ++ s) := by
  intro a r e h20
  cases J with
  | nil =>
    rcases hs with z | ⟨q, z⟩
    · rw [z] at e
      cases e
    · rw [z] at e
      cases e
      cases h20
  | cons b q =>
    cases e
    rcases hJ a List.mem_cons_self with z | z
    · rw [z] at h20
      cases h20
    · rw [z] at h20
      cases h20
theorem sr_h212 {s : List Nat} (hs : s = [] ∨ ∃ r, s = 23 :: r) : sr_h (fun a => a = 21 ∨ a = 22) s := by
  intro a r e h2
  rcases hs with z | ⟨q, z⟩
  · rw [z] at e
    cases e
  · rw [z] at e
    cases e
    rcases h2 with h2 | h2
    · cases h2
    · cases h2
theorem sr_b12 {T : Nat → Int} {n m p o d c : Nat} {l J s : List Nat} {w : cm_W} (hs : s = [] ∨ ∃ r, s = 23 :: r) (hl : ∀ a, a ∈ l → a = 20) (hJ : ∀ a, a ∈ J → a = 21 ∨ a = 22) (hM : sr_M w T n m p o (l ++ (J ++ s)).length (d + l.length) c 1) (hK : sr_K w (l ++ (J ++ s))) (hin : c + (l ++ (J ++ s)).length + 1 ≤ 2 * o) (ho : o ≤ 20) (hw : ps_wd (tx_tk T n m p) 12) : ∃ x w', cm_C 4 243 [.inr (.inr (some 184))] w (some (.inl x), w') ∧ sr_V w w' ∧ x.toInt = 1 ∧ ∃ (J' : List Nat) (t' c' : Nat), (∀ a, a ∈ J' → a = 21 ∨ a = 22) ∧ t' = (21 :: (J' ++ s)).length ∧ sr_M w' T n m (tx_tk T n m p).2.2.1 o t' d c' 0 ∧ sr_K w' (21 :: (J' ++ s)) ∧ c' + t' ≤ 2 * o := by
  have h9 : ∃ oo, cm_C (3 + 1) 243 [.inr (.inr (some 184))] w oo ∧ (fun oo : cm_O => ∃ x w', oo = (some (.inl x), w') ∧ sr_V w w' ∧ x.toInt = 1 ∧ ∃ (J' : List Nat) (t' c' : Nat), (∀ a, a ∈ J' → a = 21 ∨ a = 22) ∧ t' = (21 :: (J' ++ s)).length ∧ sr_M w' T n m (tx_tk T n m p).2.2.1 o t' d c' 0 ∧ sr_K w' (21 :: (J' ++ s)) ∧ c' + t' ≤ 2 * o) oo := by
    refine wk_entry (by rw [xm_d11360b4]; exact Nat.le_of_ble_eq_true rfl) ?_
    rw [show cm_ent 243 [.inr (.inr (some 184))] = [some (.inr (.inr (some 184)))] from by unfold cm_ent; rw [xm_d11360b4]; rfl]
    refine wk_aload_n xd_a9336e10 rfl ?_
    have hla : (l ++ (J ++ s)).length = l.length + (J ++ s).length := List.length_append
    obtain ⟨w1, hC1, f1, f2, hK1, ht1, hd1, hc1⟩ := sr_nots (s := J ++ s) (l := l) (d := d) (c := c) (w := w) (sr_h20 hs hJ) hl hK hM.2.2.2.1 hM.2.2.2.2.1 hM.2.2.2.2.2.1 (by omega) (by omega)
    obtain ⟨S1, hS1⟩ : ∃ S1, S1 = (J ++ s).length := ⟨_, rfl⟩
    have hM1 : sr_M w1 T n m p o S1 d (c + l.length) 1 := sr_mk hM ⟨fun i => f1 185 i (by omega) (by omega), fun i hi => f1 184 i (by omega) (by omega), f2⟩ (by rw [f1 184 40 (by omega) (by omega)]; exact hM.2.2.1) (by rw [hS1]; exact ht1) hd1 hc1 (by rw [f1 184 43 (by omega) (by omega)]; exact hM.2.2.2.2.2.2)
    have hV1 : sr_V w w1 := fun k i a b c => ⟨f1 k i (by omega) b, by rw [f2]⟩
    have hlen : (l ++ (J ++ s)).length = l.length + S1 := by rw [List.length_append, hS1]
    refine wk_call (kd := 0) (i := 429) xd_48e46800 rfl (wk_cal (as := [.inr (.inr (some 184))]) (t := []) xl_9fb905c4 rfl xn_e3da6fee xc_fa74d1ed rfl rfl xv_36cad7ca rfl) (cm_C_mono (by omega) hC1) ?_
    refine wk_aload_n xd_a96fcf83 rfl ?_
    refine aw_ldc2 xl_7e74c0a9 rfl xd_3761b37c ?_
    obtain ⟨xw12_8, hCw12_8, hxw12_8⟩ := mw_ok (w := w1) (l := (Int64.ofNat 6385252)) (c := tx_rw.getD 12 0) (by decide) (tx_rw32 (by omega)) hM1.1.2.1
    have ew12_8 : xw12_8.toInt = 1 := hxw12_8.elim (fun z => z.1) (fun z => absurd hw z.2)
    refine wk_call (kd := 0) (i := 210) xd_d968e3bc rfl (wk_cal (as := [.inr (.inr (some 184)), .inr (.inl (Int64.ofNat 6385252))]) (t := []) xl_e0444f12 rfl xn_94b640da xc_24159032 rfl rfl xv_bdbd9e17 rfl) (cm_C_mono (by omega) hCw12_8) ?_
    refine wk_if xd_3943ba61 (t := 24) rfl (fun _ => ?_) (fun h => absurd (aw_ne_f ew12_8 hb_z h) (by omega))
    refine wk_aload_n xd_cd34f6fa rfl ?_
    refine wk_aload_n xd_56471c2e rfl ?_
    refine aw_ldc2 xl_7e74c0a9 rfl xd_46c288f5 ?_
    obtain ⟨xw12_29, hCw12_29, hxw12_29⟩ := mw_ok (w := w1) (l := (Int64.ofNat 6385252)) (c := tx_rw.getD 12 0) (by decide) (tx_rw32 (by omega)) hM1.1.2.1
    have ew12_29 : xw12_29.toInt = 1 := hxw12_29.elim (fun z => z.1) (fun z => absurd hw z.2)
    refine wk_call (kd := 0) (i := 210) xd_539048ee rfl (wk_cal (as := [.inr (.inr (some 184)), .inr (.inl (Int64.ofNat 6385252))]) (t := [.inr (.inr (some 184))]) xl_e0444f12 rfl xn_94b640da xc_24159032 rfl rfl xv_bdbd9e17 rfl) (cm_C_mono (by omega) hCw12_29) ?_
    refine wk_if xd_3e2ac829 (t := 40) rfl (fun h => absurd (aw_eq_t ew12_29 hb_z h) (by omega)) (fun _ => ?_)
    refine wk_bipush xd_ea8ed153 ?_
    refine wk_goto xd_6fff3949 (t := 42) rfl ?_
    obtain ⟨w2, J', hC2, q1, q2, q3, ⟨f3, f4⟩, hK2, ht2, hc2⟩ := sr_joins (till := 21) (vt := ((Int8.ofInt 21).toInt32)) (w := w1) (c := c + l.length) (sr_h212 hs) (by decide) (by omega) hJ hK1 (by rw [← hS1]; exact hM1.2.2.2.1) hM1.2.2.2.2.2.1 (by have := List.length_append (as := J) (bs := s); omega) (by omega)
    obtain ⟨S2, hS2⟩ : ∃ S2, S2 = (J' ++ s).length := ⟨_, rfl⟩
    obtain ⟨c2, hc2e⟩ : ∃ c2, c2 = c + l.length + (J.length - J'.length) := ⟨_, rfl⟩
    have hM2 : sr_M w2 T n m p o S2 d c2 1 := sr_mk hM1 ⟨fun i => f3 185 i (by omega) (by omega), fun i hi => f3 184 i (by omega) (by omega), f4⟩ (by rw [f3 184 40 (by omega) (by omega)]; exact hM1.2.2.1) (by rw [hS2]; exact ht2) (by rw [f3 184 42 (by omega) (by omega)]; exact hM1.2.2.2.2.1) (by rw [hc2e]; exact hc2) (by rw [f3 184 43 (by omega) (by omega)]; exact hM1.2.2.2.2.2.2)
    have hV2 : sr_V w w2 := sr_V_tr hV1 (fun k i a b c => ⟨f3 k i (by omega) b, by rw [f4]⟩)
    have hle1 : S1 = J.length + s.length := by rw [hS1, List.length_append]
    have hle2 : S2 = J'.length + s.length := by rw [hS2, List.length_append]
    refine wk_call (kd := 0) (i := 432) xd_2a10e77b rfl (wk_cal (as := [.inr (.inr (some 184)), .inl ((Int8.ofInt 21).toInt32)]) (t := []) xl_701b531b rfl xn_33df7a20 xc_445d2b36 rfl rfl xv_fe70f5fc rfl) (cm_C_mono (by omega) hC2) ?_
    refine wk_aload_n xd_e67a4e7e rfl ?_
    refine wk_getR xf_a2e724fb xd_4c70184a ?_
    refine wk_aload_n xd_e69faccb rfl ?_
    refine wk_getI xf_6a36cb46 xd_1ad0f29f ?_
    refine wk_aload_n xd_8a955923 rfl ?_
    refine aw_ldc2 xl_7e74c0a9 rfl xd_51a9b852 ?_
    obtain ⟨xw12_57, hCw12_57, hxw12_57⟩ := mw_ok (w := w2) (l := (Int64.ofNat 6385252)) (c := tx_rw.getD 12 0) (by decide) (tx_rw32 (by omega)) hM2.1.2.1
    have ew12_57 : xw12_57.toInt = 1 := hxw12_57.elim (fun z => z.1) (fun z => absurd hw z.2)
    refine wk_call (kd := 0) (i := 210) xd_ba6a6e15 rfl (wk_cal (as := [.inr (.inr (some 184)), .inr (.inl (Int64.ofNat 6385252))]) (t := [.inl (w2.1 184 41), .inr (.inr (some 199))]) xl_e0444f12 rfl xn_94b640da xc_24159032 rfl rfl xv_bdbd9e17 rfl) (cm_C_mono (by omega) hCw12_57) ?_
    refine wk_if xd_24adf342 (t := 68) rfl (fun h => absurd (aw_eq_t ew12_57 hb_z h) (by omega)) (fun _ => ?_)
    refine wk_bipush xd_ef675851 ?_
    refine wk_goto xd_2812c8e0 (t := 70) rfl ?_
    refine aw_iastore (i := S2) xf_80f5fdb6 (show ((w2.1 184 41)).toInt = ((S2 : Int) : Int) from (hM2.2.2.2.1.trans (by omega))) (by omega) (by omega) xd_80c60001 ?_
    refine wk_aload_n xd_be3846c5 rfl ?_
    refine wk_dup_r xd_6694be62 ?_
    refine wk_getI xf_6a36cb46 xd_359f29e5 ?_
    refine wk_iconst xd_93defcab ?_
    refine aw_iadd (a := ((S2 : Int) : Int)) (b := (1 : Int)) (e := ((S2 : Int) + 1 : Int)) xd_fae99263 (show (((cm_u1 w2 199 S2 ((Int8.ofInt 21).toInt32)).1 184 41)).toInt = ((S2 : Int) : Int) from (hM2.2.2.2.1.trans (by omega))) (show ((Int32.ofInt 1)).toInt = 1 from by decide) (by omega) (by omega) (by omega) (fun v4_ p4_ => ?_)
    refine wk_putI xf_18a7eb18 (fun ci => wk_fitI ci) xd_cd5db005 ?_
    refine wk_aload_n xd_5d2d4d0c rfl ?_
    refine wk_iconst xd_841f9d93 ?_
    refine wk_putI xf_9d4a51d1 (fun _ => aw_fb (.inl (by decide))) xd_73a06743 ?_
    refine wk_aload_n xd_2b94d5a2 rfl ?_
    have hMn5_0 : sr_M (cm_u1 (cm_u1 (cm_u1 w2 199 S2 ((Int8.ofInt 21).toInt32)) 184 41 v4_) 184 43 (Int32.ofInt 0)) T n m p (o) ((S2 + 1)) (d) (c2) (0) := (sr_mk (o' := o) (t' := (S2 + 1)) (d' := d) (c' := c2) (f' := 0) hM2 ⟨fun i => by rw [hs_u1_ne (by omega), hs_u1_ne (by omega), hs_u1_ne (by omega)], fun i hi => by rw [hs_u1_ne (by omega), hs_u1_ne (by omega), hs_u1_ne (by omega)], rfl⟩ (by have e9 : ((cm_u1 (cm_u1 (cm_u1 w2 199 S2 ((Int8.ofInt 21).toInt32)) 184 41 v4_) 184 43 (Int32.ofInt 0)).1 184 40).toInt = ((o : Int) : Int) := (show (((cm_u1 (cm_u1 (cm_u1 w2 199 S2 ((Int8.ofInt 21).toInt32)) 184 41 v4_) 184 43 (Int32.ofInt 0)).1 184 40)).toInt = ((o : Int) : Int) from (hM2.2.2.1.trans (by omega))); omega) (by have e9 : ((cm_u1 (cm_u1 (cm_u1 w2 199 S2 ((Int8.ofInt 21).toInt32)) 184 41 v4_) 184 43 (Int32.ofInt 0)).1 184 41).toInt = ((S2 : Int) + 1 : Int) := (show (((cm_u1 (cm_u1 (cm_u1 w2 199 S2 ((Int8.ofInt 21).toInt32)) 184 41 v4_) 184 43 (Int32.ofInt 0)).1 184 41)).toInt = ((S2 : Int) + 1 : Int) from p4_); omega) (by have e9 : ((cm_u1 (cm_u1 (cm_u1 w2 199 S2 ((Int8.ofInt 21).toInt32)) 184 41 v4_) 184 43 (Int32.ofInt 0)).1 184 42).toInt = ((d : Int) : Int) := (show (((cm_u1 (cm_u1 (cm_u1 w2 199 S2 ((Int8.ofInt 21).toInt32)) 184 41 v4_) 184 43 (Int32.ofInt 0)).1 184 42)).toInt = ((d : Int) : Int) from (hM2.2.2.2.2.1.trans (by omega))); omega) (by have e9 : ((cm_u1 (cm_u1 (cm_u1 w2 199 S2 ((Int8.ofInt 21).toInt32)) 184 41 v4_) 184 43 (Int32.ofInt 0)).1 184 39).toInt = ((c2 : Int) : Int) := (show (((cm_u1 (cm_u1 (cm_u1 w2 199 S2 ((Int8.ofInt 21).toInt32)) 184 41 v4_) 184 43 (Int32.ofInt 0)).1 184 39)).toInt = ((c2 : Int) : Int) from (hM2.2.2.2.2.2.1.trans (by omega))); omega) (by have e9 : ((cm_u1 (cm_u1 (cm_u1 w2 199 S2 ((Int8.ofInt 21).toInt32)) 184 41 v4_) 184 43 (Int32.ofInt 0)).1 184 43).toInt = (0 : Int) := (show (((cm_u1 (cm_u1 (cm_u1 w2 199 S2 ((Int8.ofInt 21).toInt32)) 184 41 v4_) 184 43 (Int32.ofInt 0)).1 184 43)).toInt = (0 : Int) from (show ((Int32.ofInt 0)).toInt = 0 from by decide)); omega))
    have hVn5_0 : sr_V w (cm_u1 (cm_u1 (cm_u1 w2 199 S2 ((Int8.ofInt 21).toInt32)) 184 41 v4_) 184 43 (Int32.ofInt 0)) := (sr_V_tr hV2 (show sr_V w2 (cm_u1 (cm_u1 (cm_u1 w2 199 S2 ((Int8.ofInt 21).toInt32)) 184 41 v4_) 184 43 (Int32.ofInt 0)) from fun k i a b c => ⟨by rw [hs_u1_ne (by omega), hs_u1_ne (by omega), hs_u1_ne (by omega)], rfl⟩))
    obtain ⟨wn5_, hCn5_, hSn5_, hMn5_⟩ := sr_next hMn5_0 ⟨by have := hw.1; omega, by have := hw.1; omega⟩
    have hVn5_ := sr_V_tr hVn5_0 (sr_V_E (rm_E_S hSn5_))
    refine wk_call (kd := 0) (i := 179) xd_338fde30 rfl (wk_cal (as := [.inr (.inr (some 184))]) (t := []) xl_2811697b rfl xn_00af7311 xc_b2cf5bb1 rfl rfl xv_e7aa8f3d rfl) (cm_C_mono (by omega) hCn5_) ?_
    refine wk_iconst xd_0c5c9777 ?_
    exact wk_ireturn xd_73930c9e xr_b1910b0e wk_z1 ⟨_, _, rfl, hVn5_, by decide, J', S2 + 1, c2, q1, by rw [hS2]; rfl, hMn5_, ⟨by rw [(hSn5_ 199 _ (by omega)).1, hs_u1_ne (by omega), hs_u1_ne (by omega), ← hS2, hs_u1_self]; decide, sr_K_lt (w := w2) _ (fun i hi => by rw [(hSn5_ 199 i (by omega)).1, hs_u1_ne (by omega), hs_u1_ne (by omega), hs_u1_ne (by omega)]) hK2⟩, by omega⟩
  obtain ⟨oo, hC, x, w', rfl, a⟩ := h9
  exact ⟨x, w', hC, a⟩
theorem sr_b11 {T : Nat → Int} {n m p o d c : Nat} {l J s : List Nat} {w : cm_W} (hs : s = [] ∨ ∃ r, s = 23 :: r) (hl : ∀ a, a ∈ l → a = 20) (hJ : ∀ a, a ∈ J → a = 21 ∨ a = 22) (hM : sr_M w T n m p o (l ++ (J ++ s)).length (d + l.length) c 1) (hK : sr_K w (l ++ (J ++ s))) (hin : c + (l ++ (J ++ s)).length + 1 ≤ 2 * o) (ho : o ≤ 20) (hw : ps_wd (tx_tk T n m p) 11) : ∃ x w', cm_C 4 243 [.inr (.inr (some 184))] w (some (.inl x), w') ∧ sr_V w w' ∧ x.toInt = 1 ∧ ∃ (J' : List Nat) (t' c' : Nat), (∀ a, a ∈ J' → a = 21 ∨ a = 22) ∧ t' = (22 :: (J' ++ s)).length ∧ sr_M w' T n m (tx_tk T n m p).2.2.1 o t' d c' 0 ∧ sr_K w' (22 :: (J' ++ s)) ∧ c' + t' ≤ 2 * o := by
  have h9 : ∃ oo, cm_C (3 + 1) 243 [.inr (.inr (some 184))] w oo ∧ (fun oo : cm_O => ∃ x w', oo = (some (.inl x), w') ∧ sr_V w w' ∧ x.toInt = 1 ∧ ∃ (J' : List Nat) (t' c' : Nat), (∀ a, a ∈ J' → a = 21 ∨ a = 22) ∧ t' = (22 :: (J' ++ s)).length ∧ sr_M w' T n m (tx_tk T n m p).2.2.1 o t' d c' 0 ∧ sr_K w' (22 :: (J' ++ s)) ∧ c' + t' ≤ 2 * o) oo := by
    refine wk_entry (by rw [xm_d11360b4]; exact Nat.le_of_ble_eq_true rfl) ?_
    rw [show cm_ent 243 [.inr (.inr (some 184))] = [some (.inr (.inr (some 184)))] from by unfold cm_ent; rw [xm_d11360b4]; rfl]
    refine wk_aload_n xd_a9336e10 rfl ?_
    have hla : (l ++ (J ++ s)).length = l.length + (J ++ s).length := List.length_append
    obtain ⟨w1, hC1, f1, f2, hK1, ht1, hd1, hc1⟩ := sr_nots (s := J ++ s) (l := l) (d := d) (c := c) (w := w) (sr_h20 hs hJ) hl hK hM.2.2.2.1 hM.2.2.2.2.1 hM.2.2.2.2.2.1 (by omega) (by omega)
    obtain ⟨S1, hS1⟩ : ∃ S1, S1 = (J ++ s).length := ⟨_, rfl⟩
    have hM1 : sr_M w1 T n m p o S1 d (c + l.length) 1 := sr_mk hM ⟨fun i => f1 185 i (by omega) (by omega), fun i hi => f1 184 i (by omega) (by omega), f2⟩ (by rw [f1 184 40 (by omega) (by omega)]; exact hM.2.2.1) (by rw [hS1]; exact ht1) hd1 hc1 (by rw [f1 184 43 (by omega) (by omega)]; exact hM.2.2.2.2.2.2)
    have hV1 : sr_V w w1 := fun k i a b c => ⟨f1 k i (by omega) b, by rw [f2]⟩
    have hlen : (l ++ (J ++ s)).length = l.length + S1 := by rw [List.length_append, hS1]
    refine wk_call (kd := 0) (i := 429) xd_48e46800 rfl (wk_cal (as := [.inr (.inr (some 184))]) (t := []) xl_9fb905c4 rfl xn_e3da6fee xc_fa74d1ed rfl rfl xv_36cad7ca rfl) (cm_C_mono (by omega) hC1) ?_
    refine wk_aload_n xd_a96fcf83 rfl ?_
    refine aw_ldc2 xl_7e74c0a9 rfl xd_3761b37c ?_
    obtain ⟨xw12_8, hCw12_8, hxw12_8⟩ := mw_ok (w := w1) (l := (Int64.ofNat 6385252)) (c := tx_rw.getD 12 0) (by decide) (tx_rw32 (by omega)) hM1.1.2.1
    have ew12_8 : xw12_8.toInt = 0 := hxw12_8.elim (fun z => absurd z.2 (ps_wd_ne (i := 12) hw (by omega) (by omega) (by omega))) (fun z => z.1)
    refine wk_call (kd := 0) (i := 210) xd_d968e3bc rfl (wk_cal (as := [.inr (.inr (some 184)), .inr (.inl (Int64.ofNat 6385252))]) (t := []) xl_e0444f12 rfl xn_94b640da xc_24159032 rfl rfl xv_bdbd9e17 rfl) (cm_C_mono (by omega) hCw12_8) ?_
    refine wk_if xd_3943ba61 (t := 24) rfl (fun h => absurd (aw_ne_t ew12_8 hb_z h) (by omega)) (fun _ => ?_)
    refine wk_aload_n xd_952a5fd2 rfl ?_
    refine aw_ldc2 xl_d8ce3c22 rfl xd_9dd5aee1 ?_
    obtain ⟨xw11_18, hCw11_18, hxw11_18⟩ := mw_ok (w := w1) (l := (Int64.ofNat 28530)) (c := tx_rw.getD 11 0) (by decide) (tx_rw32 (by omega)) hM1.1.2.1
    have ew11_18 : xw11_18.toInt = 1 := hxw11_18.elim (fun z => z.1) (fun z => absurd hw z.2)
    refine wk_call (kd := 0) (i := 210) xd_9468a880 rfl (wk_cal (as := [.inr (.inr (some 184)), .inr (.inl (Int64.ofNat 28530))]) (t := []) xl_e0444f12 rfl xn_94b640da xc_24159032 rfl rfl xv_bdbd9e17 rfl) (cm_C_mono (by omega) hCw11_18) ?_
    refine wk_if xd_eda0ac37 (t := 92) rfl (fun h => absurd (aw_eq_t ew11_18 hb_z h) (by omega)) (fun _ => ?_)
    refine wk_aload_n xd_cd34f6fa rfl ?_
    refine wk_aload_n xd_56471c2e rfl ?_
    refine aw_ldc2 xl_7e74c0a9 rfl xd_46c288f5 ?_
    obtain ⟨xw12_29, hCw12_29, hxw12_29⟩ := mw_ok (w := w1) (l := (Int64.ofNat 6385252)) (c := tx_rw.getD 12 0) (by decide) (tx_rw32 (by omega)) hM1.1.2.1
    have ew12_29 : xw12_29.toInt = 0 := hxw12_29.elim (fun z => absurd z.2 (ps_wd_ne (i := 12) hw (by omega) (by omega) (by omega))) (fun z => z.1)
    refine wk_call (kd := 0) (i := 210) xd_539048ee rfl (wk_cal (as := [.inr (.inr (some 184)), .inr (.inl (Int64.ofNat 6385252))]) (t := [.inr (.inr (some 184))]) xl_e0444f12 rfl xn_94b640da xc_24159032 rfl rfl xv_bdbd9e17 rfl) (cm_C_mono (by omega) hCw12_29) ?_
    refine wk_if xd_3e2ac829 (t := 40) rfl (fun _ => ?_) (fun h => absurd (aw_eq_f ew12_29 hb_z h) (by omega))
    refine wk_bipush xd_0719d7b3 ?_
    obtain ⟨w2, J', hC2, q1, q2, q3, ⟨f3, f4⟩, hK2, ht2, hc2⟩ := sr_joins (till := 22) (vt := ((Int8.ofInt 22).toInt32)) (w := w1) (c := c + l.length) (sr_h212 hs) (by decide) (by omega) hJ hK1 (by rw [← hS1]; exact hM1.2.2.2.1) hM1.2.2.2.2.2.1 (by have := List.length_append (as := J) (bs := s); omega) (by omega)
    obtain ⟨S2, hS2⟩ : ∃ S2, S2 = (J' ++ s).length := ⟨_, rfl⟩
    obtain ⟨c2, hc2e⟩ : ∃ c2, c2 = c + l.length + (J.length - J'.length) := ⟨_, rfl⟩
    have hM2 : sr_M w2 T n m p o S2 d c2 1 := sr_mk hM1 ⟨fun i => f3 185 i (by omega) (by omega), fun i hi => f3 184 i (by omega) (by omega), f4⟩ (by rw [f3 184 40 (by omega) (by omega)]; exact hM1.2.2.1) (by rw [hS2]; exact ht2) (by rw [f3 184 42 (by omega) (by omega)]; exact hM1.2.2.2.2.1) (by rw [hc2e]; exact hc2) (by rw [f3 184 43 (by omega) (by omega)]; exact hM1.2.2.2.2.2.2)
    have hV2 : sr_V w w2 := sr_V_tr hV1 (fun k i a b c => ⟨f3 k i (by omega) b, by rw [f4]⟩)
    have hle1 : S1 = J.length + s.length := by rw [hS1, List.length_append]
    have hle2 : S2 = J'.length + s.length := by rw [hS2, List.length_append]
    refine wk_call (kd := 0) (i := 432) xd_2a10e77b rfl (wk_cal (as := [.inr (.inr (some 184)), .inl ((Int8.ofInt 22).toInt32)]) (t := []) xl_701b531b rfl xn_33df7a20 xc_445d2b36 rfl rfl xv_fe70f5fc rfl) (cm_C_mono (by omega) hC2) ?_
    refine wk_aload_n xd_e67a4e7e rfl ?_
    refine wk_getR xf_a2e724fb xd_4c70184a ?_
    refine wk_aload_n xd_e69faccb rfl ?_
    refine wk_getI xf_6a36cb46 xd_1ad0f29f ?_
    refine wk_aload_n xd_8a955923 rfl ?_
    refine aw_ldc2 xl_7e74c0a9 rfl xd_51a9b852 ?_
    obtain ⟨xw12_57, hCw12_57, hxw12_57⟩ := mw_ok (w := w2) (l := (Int64.ofNat 6385252)) (c := tx_rw.getD 12 0) (by decide) (tx_rw32 (by omega)) hM2.1.2.1
    have ew12_57 : xw12_57.toInt = 0 := hxw12_57.elim (fun z => absurd z.2 (ps_wd_ne (i := 12) hw (by omega) (by omega) (by omega))) (fun z => z.1)
    refine wk_call (kd := 0) (i := 210) xd_ba6a6e15 rfl (wk_cal (as := [.inr (.inr (some 184)), .inr (.inl (Int64.ofNat 6385252))]) (t := [.inl (w2.1 184 41), .inr (.inr (some 199))]) xl_e0444f12 rfl xn_94b640da xc_24159032 rfl rfl xv_bdbd9e17 rfl) (cm_C_mono (by omega) hCw12_57) ?_
    refine wk_if xd_24adf342 (t := 68) rfl (fun _ => ?_) (fun h => absurd (aw_eq_f ew12_57 hb_z h) (by omega))
    refine wk_bipush xd_de9b589a ?_
    refine aw_iastore (i := S2) xf_80f5fdb6 (show ((w2.1 184 41)).toInt = ((S2 : Int) : Int) from (hM2.2.2.2.1.trans (by omega))) (by omega) (by omega) xd_80c60001 ?_
    refine wk_aload_n xd_be3846c5 rfl ?_
    refine wk_dup_r xd_6694be62 ?_
    refine wk_getI xf_6a36cb46 xd_359f29e5 ?_
    refine wk_iconst xd_93defcab ?_
    refine aw_iadd (a := ((S2 : Int) : Int)) (b := (1 : Int)) (e := ((S2 : Int) + 1 : Int)) xd_fae99263 (show (((cm_u1 w2 199 S2 ((Int8.ofInt 22).toInt32)).1 184 41)).toInt = ((S2 : Int) : Int) from (hM2.2.2.2.1.trans (by omega))) (show ((Int32.ofInt 1)).toInt = 1 from by decide) (by omega) (by omega) (by omega) (fun v5_ p5_ => ?_)
    refine wk_putI xf_18a7eb18 (fun ci => wk_fitI ci) xd_cd5db005 ?_
    refine wk_aload_n xd_5d2d4d0c rfl ?_
    refine wk_iconst xd_841f9d93 ?_
    refine wk_putI xf_9d4a51d1 (fun _ => aw_fb (.inl (by decide))) xd_73a06743 ?_
    refine wk_aload_n xd_2b94d5a2 rfl ?_
    have hMn6_0 : sr_M (cm_u1 (cm_u1 (cm_u1 w2 199 S2 ((Int8.ofInt 22).toInt32)) 184 41 v5_) 184 43 (Int32.ofInt 0)) T n m p (o) ((S2 + 1)) (d) (c2) (0) := (sr_mk (o' := o) (t' := (S2 + 1)) (d' := d) (c' := c2) (f' := 0) hM2 ⟨fun i => by rw [hs_u1_ne (by omega), hs_u1_ne (by omega), hs_u1_ne (by omega)], fun i hi => by rw [hs_u1_ne (by omega), hs_u1_ne (by omega), hs_u1_ne (by omega)], rfl⟩ (by have e9 : ((cm_u1 (cm_u1 (cm_u1 w2 199 S2 ((Int8.ofInt 22).toInt32)) 184 41 v5_) 184 43 (Int32.ofInt 0)).1 184 40).toInt = ((o : Int) : Int) := (show (((cm_u1 (cm_u1 (cm_u1 w2 199 S2 ((Int8.ofInt 22).toInt32)) 184 41 v5_) 184 43 (Int32.ofInt 0)).1 184 40)).toInt = ((o : Int) : Int) from (hM2.2.2.1.trans (by omega))); omega) (by have e9 : ((cm_u1 (cm_u1 (cm_u1 w2 199 S2 ((Int8.ofInt 22).toInt32)) 184 41 v5_) 184 43 (Int32.ofInt 0)).1 184 41).toInt = ((S2 : Int) + 1 : Int) := (show (((cm_u1 (cm_u1 (cm_u1 w2 199 S2 ((Int8.ofInt 22).toInt32)) 184 41 v5_) 184 43 (Int32.ofInt 0)).1 184 41)).toInt = ((S2 : Int) + 1 : Int) from p5_); omega) (by have e9 : ((cm_u1 (cm_u1 (cm_u1 w2 199 S2 ((Int8.ofInt 22).toInt32)) 184 41 v5_) 184 43 (Int32.ofInt 0)).1 184 42).toInt = ((d : Int) : Int) := (show (((cm_u1 (cm_u1 (cm_u1 w2 199 S2 ((Int8.ofInt 22).toInt32)) 184 41 v5_) 184 43 (Int32.ofInt 0)).1 184 42)).toInt = ((d : Int) : Int) from (hM2.2.2.2.2.1.trans (by omega))); omega) (by have e9 : ((cm_u1 (cm_u1 (cm_u1 w2 199 S2 ((Int8.ofInt 22).toInt32)) 184 41 v5_) 184 43 (Int32.ofInt 0)).1 184 39).toInt = ((c2 : Int) : Int) := (show (((cm_u1 (cm_u1 (cm_u1 w2 199 S2 ((Int8.ofInt 22).toInt32)) 184 41 v5_) 184 43 (Int32.ofInt 0)).1 184 39)).toInt = ((c2 : Int) : Int) from (hM2.2.2.2.2.2.1.trans (by omega))); omega) (by have e9 : ((cm_u1 (cm_u1 (cm_u1 w2 199 S2 ((Int8.ofInt 22).toInt32)) 184 41 v5_) 184 43 (Int32.ofInt 0)).1 184 43).toInt = (0 : Int) := (show (((cm_u1 (cm_u1 (cm_u1 w2 199 S2 ((Int8.ofInt 22).toInt32)) 184 41 v5_) 184 43 (Int32.ofInt 0)).1 184 43)).toInt = (0 : Int) from (show ((Int32.ofInt 0)).toInt = 0 from by decide)); omega))
    have hVn6_0 : sr_V w (cm_u1 (cm_u1 (cm_u1 w2 199 S2 ((Int8.ofInt 22).toInt32)) 184 41 v5_) 184 43 (Int32.ofInt 0)) := (sr_V_tr hV2 (show sr_V w2 (cm_u1 (cm_u1 (cm_u1 w2 199 S2 ((Int8.ofInt 22).toInt32)) 184 41 v5_) 184 43 (Int32.ofInt 0)) from fun k i a b c => ⟨by rw [hs_u1_ne (by omega), hs_u1_ne (by omega), hs_u1_ne (by omega)], rfl⟩))
    obtain ⟨wn6_, hCn6_, hSn6_, hMn6_⟩ := sr_next hMn6_0 ⟨by have := hw.1; omega, by have := hw.1; omega⟩
    have hVn6_ := sr_V_tr hVn6_0 (sr_V_E (rm_E_S hSn6_))
    refine wk_call (kd := 0) (i := 179) xd_338fde30 rfl (wk_cal (as := [.inr (.inr (some 184))]) (t := []) xl_2811697b rfl xn_00af7311 xc_b2cf5bb1 rfl rfl xv_e7aa8f3d rfl) (cm_C_mono (by omega) hCn6_) ?_
    refine wk_iconst xd_0c5c9777 ?_
    exact wk_ireturn xd_73930c9e xr_b1910b0e wk_z1 ⟨_, _, rfl, hVn6_, by decide, J', S2 + 1, c2, q1, by rw [hS2]; rfl, hMn6_, ⟨by rw [(hSn6_ 199 _ (by omega)).1, hs_u1_ne (by omega), hs_u1_ne (by omega), ← hS2, hs_u1_self]; decide, sr_K_lt (w := w2) _ (fun i hi => by rw [(hSn6_ 199 i (by omega)).1, hs_u1_ne (by omega), hs_u1_ne (by omega), hs_u1_ne (by omega)]) hK2⟩, by omega⟩
  obtain ⟨oo, hC, x, w', rfl, a⟩ := h9
  exact ⟨x, w', hC, a⟩
theorem sr_bc {T : Nat → Int} {n m p o d c : Nat} {l J r : List Nat} {w : cm_W} (hl : ∀ a, a ∈ l → a = 20) (hJ : ∀ a, a ∈ J → a = 21 ∨ a = 22) (hM : sr_M w T n m p o (l ++ (J ++ 23 :: r)).length (d + 1 + l.length) c 1) (hK : sr_K w (l ++ (J ++ 23 :: r))) (hin : c + (l ++ (J ++ 23 :: r)).length + 1 ≤ 2 * o) (ho : o ≤ 20) (hw12 : ¬ ps_wd (tx_tk T n m p) 12) (hw11 : ¬ ps_wd (tx_tk T n m p) 11) (h41 : (tx_tk T n m p).1 = 3 ∧ (tx_tk T n m p).2.2.2.1 = 41) : ∃ x w', cm_C 4 243 [.inr (.inr (some 184))] w (some (.inl x), w') ∧ sr_V w w' ∧ x.toInt = 1 ∧ ∃ (t' c' : Nat), t' = r.length ∧ sr_M w' T n m (tx_tk T n m p).2.2.1 o t' d c' 1 ∧ sr_K w' r ∧ c' + t' + 1 ≤ 2 * o := by
  obtain ⟨s, hsr⟩ : ∃ s, s = 23 :: r := ⟨_, rfl⟩
  rw [← hsr] at hM hK hin
  obtain ⟨d1, hd1e⟩ : ∃ d1, d1 = d + 1 := ⟨_, rfl⟩
  rw [← hd1e] at hM
  have hs : s = [] ∨ ∃ r, s = 23 :: r := .inr ⟨r, hsr⟩
  have hsl : s.length = r.length + 1 := by rw [hsr]; rfl
  have h9 : ∃ oo, cm_C (3 + 1) 243 [.inr (.inr (some 184))] w oo ∧ (fun oo : cm_O => ∃ x w', oo = (some (.inl x), w') ∧ sr_V w w' ∧ x.toInt = 1 ∧ ∃ (t' c' : Nat), t' = r.length ∧ sr_M w' T n m (tx_tk T n m p).2.2.1 o t' d c' 1 ∧ sr_K w' r ∧ c' + t' + 1 ≤ 2 * o) oo := by
    refine wk_entry (by rw [xm_d11360b4]; exact Nat.le_of_ble_eq_true rfl) ?_
    rw [show cm_ent 243 [.inr (.inr (some 184))] = [some (.inr (.inr (some 184)))] from by unfold cm_ent; rw [xm_d11360b4]; rfl]
    refine wk_aload_n xd_a9336e10 rfl ?_
    have hla : (l ++ (J ++ s)).length = l.length + (J ++ s).length := List.length_append
    obtain ⟨w1, hC1, f1, f2, hK1, ht1, hd1, hc1⟩ := sr_nots (s := J ++ s) (l := l) (d := d1) (c := c) (w := w) (sr_h20 hs hJ) hl hK hM.2.2.2.1 hM.2.2.2.2.1 hM.2.2.2.2.2.1 (by omega) (by omega)
    obtain ⟨S1, hS1⟩ : ∃ S1, S1 = (J ++ s).length := ⟨_, rfl⟩
    have hM1 : sr_M w1 T n m p o S1 d1 (c + l.length) 1 := sr_mk hM ⟨fun i => f1 185 i (by omega) (by omega), fun i hi => f1 184 i (by omega) (by omega), f2⟩ (by rw [f1 184 40 (by omega) (by omega)]; exact hM.2.2.1) (by rw [hS1]; exact ht1) hd1 hc1 (by rw [f1 184 43 (by omega) (by omega)]; exact hM.2.2.2.2.2.2)
    have hV1 : sr_V w w1 := fun k i a b c => ⟨f1 k i (by omega) b, by rw [f2]⟩
    have hlen : (l ++ (J ++ s)).length = l.length + S1 := by rw [List.length_append, hS1]
    refine wk_call (kd := 0) (i := 429) xd_48e46800 rfl (wk_cal (as := [.inr (.inr (some 184))]) (t := []) xl_9fb905c4 rfl xn_e3da6fee xc_fa74d1ed rfl rfl xv_36cad7ca rfl) (cm_C_mono (by omega) hC1) ?_
    refine wk_aload_n xd_a96fcf83 rfl ?_
    refine aw_ldc2 xl_7e74c0a9 rfl xd_3761b37c ?_
    obtain ⟨xw12_8, hCw12_8, hxw12_8⟩ := mw_ok (w := w1) (l := (Int64.ofNat 6385252)) (c := tx_rw.getD 12 0) (by decide) (tx_rw32 (by omega)) hM1.1.2.1
    have ew12_8 : xw12_8.toInt = 0 := hxw12_8.elim (fun z => absurd z.2 hw12) (fun z => z.1)
    refine wk_call (kd := 0) (i := 210) xd_d968e3bc rfl (wk_cal (as := [.inr (.inr (some 184)), .inr (.inl (Int64.ofNat 6385252))]) (t := []) xl_e0444f12 rfl xn_94b640da xc_24159032 rfl rfl xv_bdbd9e17 rfl) (cm_C_mono (by omega) hCw12_8) ?_
    refine wk_if xd_3943ba61 (t := 24) rfl (fun h => absurd (aw_ne_t ew12_8 hb_z h) (by omega)) (fun _ => ?_)
    refine wk_aload_n xd_952a5fd2 rfl ?_
    refine aw_ldc2 xl_d8ce3c22 rfl xd_9dd5aee1 ?_
    obtain ⟨xw11_18, hCw11_18, hxw11_18⟩ := mw_ok (w := w1) (l := (Int64.ofNat 28530)) (c := tx_rw.getD 11 0) (by decide) (tx_rw32 (by omega)) hM1.1.2.1
    have ew11_18 : xw11_18.toInt = 0 := hxw11_18.elim (fun z => absurd z.2 hw11) (fun z => z.1)
    refine wk_call (kd := 0) (i := 210) xd_9468a880 rfl (wk_cal (as := [.inr (.inr (some 184)), .inr (.inl (Int64.ofNat 28530))]) (t := []) xl_e0444f12 rfl xn_94b640da xc_24159032 rfl rfl xv_bdbd9e17 rfl) (cm_C_mono (by omega) hCw11_18) ?_
    refine wk_if xd_eda0ac37 (t := 92) rfl (fun _ => ?_) (fun h => absurd (aw_eq_f ew11_18 hb_z h) (by omega))
    refine wk_aload_n xd_aaed1116 rfl ?_
    refine wk_bipush xd_4bd22948 ?_
    obtain ⟨w2, J', hC2, q1, q2, q3, ⟨f3, f4⟩, hK2, ht2, hc2⟩ := sr_joins (till := 22) (vt := ((Int8.ofInt 22).toInt32)) (w := w1) (c := c + l.length) (sr_h212 hs) (by decide) (by omega) hJ hK1 (by rw [← hS1]; exact hM1.2.2.2.1) hM1.2.2.2.2.2.1 (by have := List.length_append (as := J) (bs := s); omega) (by omega)
    obtain ⟨S2, hS2⟩ : ∃ S2, S2 = (J' ++ s).length := ⟨_, rfl⟩
    obtain ⟨c2, hc2e⟩ : ∃ c2, c2 = c + l.length + (J.length - J'.length) := ⟨_, rfl⟩
    have hM2 : sr_M w2 T n m p o S2 d1 c2 1 := sr_mk hM1 ⟨fun i => f3 185 i (by omega) (by omega), fun i hi => f3 184 i (by omega) (by omega), f4⟩ (by rw [f3 184 40 (by omega) (by omega)]; exact hM1.2.2.1) (by rw [hS2]; exact ht2) (by rw [f3 184 42 (by omega) (by omega)]; exact hM1.2.2.2.2.1) (by rw [hc2e]; exact hc2) (by rw [f3 184 43 (by omega) (by omega)]; exact hM1.2.2.2.2.2.2)
    have hV2 : sr_V w w2 := sr_V_tr hV1 (fun k i a b c => ⟨f3 k i (by omega) b, by rw [f4]⟩)
    have hle1 : S1 = J.length + s.length := by rw [hS1, List.length_append]
    have hle2 : S2 = J'.length + s.length := by rw [hS2, List.length_append]
    have hd9 := Int32.toInt_lt (w2.1 184 42)
    have hd8 := hM2.2.2.2.2.1
    have hJ0 : J' = [] := q3 rfl
    subst hJ0
    have hS2s : S2 = s.length := hS2
    refine wk_call (kd := 0) (i := 432) xd_61e35698 rfl (wk_cal (as := [.inr (.inr (some 184)), .inl ((Int8.ofInt 22).toInt32)]) (t := []) xl_701b531b rfl xn_33df7a20 xc_445d2b36 rfl rfl xv_fe70f5fc rfl) (cm_C_mono (by omega) hC2) ?_
    refine wk_aload_n xd_47c281d9 rfl ?_
    refine wk_bipush xd_3704204a ?_
    obtain ⟨xg41_101, hCg41_101, hxg41_101⟩ := mi_ok (w := w2) (k := ((Int8.ofInt 41).toInt32)) (c := 41) (by decide) hM2.1.2.1
    have eg41_101 : xg41_101.toInt = 1 := hxg41_101.elim (fun z => z.1) (fun z => absurd h41 z.2)
    refine wk_call (kd := 0) (i := 173) xd_9359fcef rfl (wk_cal (as := [.inr (.inr (some 184)), .inl ((Int8.ofInt 41).toInt32)]) (t := []) xl_73055a27 rfl xn_225279b5 xc_ca564353 rfl rfl xv_bcdeec94 rfl) (cm_C_mono (by omega) hCg41_101) ?_
    refine wk_if xd_b7aeddaf (t := 114) rfl (fun h => absurd (aw_eq_t eg41_101 hb_z h) (by omega)) (fun _ => ?_)
    refine wk_aload_n xd_7eba273a rfl ?_
    refine wk_getI xf_6a36cb46 xd_6cf7b8d7 ?_
    refine wk_if xd_ce3d8998 (t := 120) rfl (fun h111_3 => ?_) (fun h111_3 => ?_)
    · have h111_3 := aw_ne_t (a := ((S2 : Int) : Int)) (b := (0 : Int)) (show ((w2.1 184 41)).toInt = ((S2 : Int) : Int) from (hM2.2.2.2.1.trans (by omega))) hb_z h111_3
      refine wk_aload_n xd_d138739b rfl ?_
      refine wk_dup_r xd_5591be06 ?_
      refine wk_getI xf_6a36cb46 xd_f18ce886 ?_
      refine wk_iconst xd_0dcc8afd ?_
      refine aw_isub (a := ((S2 : Int) : Int)) (b := (1 : Int)) (e := ((S2 : Int) + (-1) : Int)) xd_025af0d8 (show ((w2.1 184 41)).toInt = ((S2 : Int) : Int) from (hM2.2.2.2.1.trans (by omega))) (show ((Int32.ofInt 1)).toInt = 1 from by decide) (by omega) (by omega) (by omega) (fun v5_ p5_ => ?_)
      refine wk_putI xf_18a7eb18 (fun ci => wk_fitI ci) xd_63b9816b ?_
      refine wk_aload_n xd_501d16bc rfl ?_
      refine wk_dup_r xd_bac308e7 ?_
      refine wk_getI xf_a1930c0e xd_2d202fd7 ?_
      refine wk_iconst xd_96bf6029 ?_
      refine aw_isub (a := ((d1 : Int) : Int)) (b := (1 : Int)) (e := ((d1 : Int) + (-1) : Int)) xd_d5b87080 (show (((cm_u1 w2 184 41 v5_).1 184 42)).toInt = ((d1 : Int) : Int) from (hM2.2.2.2.2.1.trans (by omega))) (show ((Int32.ofInt 1)).toInt = 1 from by decide) (by omega) (by omega) (by omega) (fun v6_ p6_ => ?_)
      refine wk_putI xf_d3022c50 (fun ci => wk_fitI ci) xd_bf15463a ?_
      refine wk_aload_n xd_610521cb rfl ?_
      have hMn7_0 : sr_M (cm_u1 (cm_u1 w2 184 41 v5_) 184 42 v6_) T n m p (o) ((S2 - 1)) ((d1 - 1)) (c2) (1) := (sr_mk (o' := o) (t' := (S2 - 1)) (d' := (d1 - 1)) (c' := c2) (f' := 1) hM2 ⟨fun i => by rw [hs_u1_ne (by omega), hs_u1_ne (by omega)], fun i hi => by rw [hs_u1_ne (by omega), hs_u1_ne (by omega)], rfl⟩ (by have e9 : ((cm_u1 (cm_u1 w2 184 41 v5_) 184 42 v6_).1 184 40).toInt = ((o : Int) : Int) := (show (((cm_u1 (cm_u1 w2 184 41 v5_) 184 42 v6_).1 184 40)).toInt = ((o : Int) : Int) from (hM2.2.2.1.trans (by omega))); omega) (by have e9 : ((cm_u1 (cm_u1 w2 184 41 v5_) 184 42 v6_).1 184 41).toInt = ((S2 : Int) + (-1) : Int) := (show (((cm_u1 (cm_u1 w2 184 41 v5_) 184 42 v6_).1 184 41)).toInt = ((S2 : Int) + (-1) : Int) from p5_); omega) (by have e9 : ((cm_u1 (cm_u1 w2 184 41 v5_) 184 42 v6_).1 184 42).toInt = ((d1 : Int) + (-1) : Int) := (show (((cm_u1 (cm_u1 w2 184 41 v5_) 184 42 v6_).1 184 42)).toInt = ((d1 : Int) + (-1) : Int) from p6_); omega) (by have e9 : ((cm_u1 (cm_u1 w2 184 41 v5_) 184 42 v6_).1 184 39).toInt = ((c2 : Int) : Int) := (show (((cm_u1 (cm_u1 w2 184 41 v5_) 184 42 v6_).1 184 39)).toInt = ((c2 : Int) : Int) from (hM2.2.2.2.2.2.1.trans (by omega))); omega) (by have e9 : ((cm_u1 (cm_u1 w2 184 41 v5_) 184 42 v6_).1 184 43).toInt = (1 : Int) := (show (((cm_u1 (cm_u1 w2 184 41 v5_) 184 42 v6_).1 184 43)).toInt = (1 : Int) from (hM2.2.2.2.2.2.2.trans (by omega))); omega))
      have hVn7_0 : sr_V w (cm_u1 (cm_u1 w2 184 41 v5_) 184 42 v6_) := (sr_V_tr hV2 (show sr_V w2 (cm_u1 (cm_u1 w2 184 41 v5_) 184 42 v6_) from fun k i a b c => ⟨by rw [hs_u1_ne (by omega), hs_u1_ne (by omega)], rfl⟩))
      obtain ⟨wn7_, hCn7_, hSn7_, hMn7_⟩ := sr_next hMn7_0 ⟨by have := h41.1; omega, by have := h41.1; omega⟩
      have hVn7_ := sr_V_tr hVn7_0 (sr_V_E (rm_E_S hSn7_))
      have hKn7_ : sr_K wn7_ s := sr_K_lt (w := w2) _ (fun i _ => by rw [(hSn7_ 199 i (by omega)).1, hs_u1_ne (by omega), hs_u1_ne (by omega)]) hK2
      refine wk_call (kd := 0) (i := 179) xd_a863fe64 rfl (wk_cal (as := [.inr (.inr (some 184))]) (t := []) xl_2811697b rfl xn_00af7311 xc_b2cf5bb1 rfl rfl xv_e7aa8f3d rfl) (cm_C_mono (by omega) hCn7_) ?_
      refine wk_iconst xd_f72e9c47 ?_
      exact wk_ireturn xd_d5d459c1 xr_b1910b0e wk_z1 ⟨_, _, rfl, hVn7_, by decide, S2 - 1, c2, by omega, (show sr_M _ T n m _ o (S2 - 1) d c2 1 from by have e9 := hMn7_; rw [show d1 - 1 = d from by omega] at e9; exact e9), sr_K_lt (w := w2) _ (fun i hi => by rw [(hSn7_ 199 i (by omega)).1, hs_u1_ne (by omega), hs_u1_ne (by omega)]) (by have e9 : sr_K w2 s := hK2; rw [hsr] at e9; exact e9.2), by omega⟩
    · have h111_3 := aw_ne_f (a := ((S2 : Int) : Int)) (b := (0 : Int)) (show ((w2.1 184 41)).toInt = ((S2 : Int) : Int) from (hM2.2.2.2.1.trans (by omega))) hb_z h111_3
      exfalso
      omega
  obtain ⟨oo, hC, x, w', rfl, a⟩ := h9
  exact ⟨x, w', hC, a⟩
theorem sr_bn {T : Nat → Int} {n m p o d c : Nat} {l J s : List Nat} {w : cm_W} (hs : s = [] ∨ ∃ r, s = 23 :: r) (hl : ∀ a, a ∈ l → a = 20) (hJ : ∀ a, a ∈ J → a = 21 ∨ a = 22) (hM : sr_M w T n m p o (l ++ (J ++ s)).length (d + l.length) c 1) (hK : sr_K w (l ++ (J ++ s))) (hin : c + (l ++ (J ++ s)).length + 1 ≤ 2 * o) (ho : o ≤ 20) (hw12 : ¬ ps_wd (tx_tk T n m p) 12) (hw11 : ¬ ps_wd (tx_tk T n m p) 11) (h41 : s ≠ [] → ¬ ((tx_tk T n m p).1 = 3 ∧ (tx_tk T n m p).2.2.2.1 = 41)) : ∃ x w', cm_C 4 243 [.inr (.inr (some 184))] w (some (.inl x), w') ∧ sr_V w w' ∧ x.toInt = 0 ∧ cr_B w' 1 (tx_tk T n m p).2.1 := by
  have h9 : ∃ oo, cm_C (3 + 1) 243 [.inr (.inr (some 184))] w oo ∧ (fun oo : cm_O => ∃ x w', oo = (some (.inl x), w') ∧ sr_V w w' ∧ x.toInt = 0 ∧ cr_B w' 1 (tx_tk T n m p).2.1) oo := by
    refine wk_entry (by rw [xm_d11360b4]; exact Nat.le_of_ble_eq_true rfl) ?_
    rw [show cm_ent 243 [.inr (.inr (some 184))] = [some (.inr (.inr (some 184)))] from by unfold cm_ent; rw [xm_d11360b4]; rfl]
    refine wk_aload_n xd_a9336e10 rfl ?_
    have hla : (l ++ (J ++ s)).length = l.length + (J ++ s).length := List.length_append
    obtain ⟨w1, hC1, f1, f2, hK1, ht1, hd1, hc1⟩ := sr_nots (s := J ++ s) (l := l) (d := d) (c := c) (w := w) (sr_h20 hs hJ) hl hK hM.2.2.2.1 hM.2.2.2.2.1 hM.2.2.2.2.2.1 (by omega) (by omega)
    obtain ⟨S1, hS1⟩ : ∃ S1, S1 = (J ++ s).length := ⟨_, rfl⟩
    have hM1 : sr_M w1 T n m p o S1 d (c + l.length) 1 := sr_mk hM ⟨fun i => f1 185 i (by omega) (by omega), fun i hi => f1 184 i (by omega) (by omega), f2⟩ (by rw [f1 184 40 (by omega) (by omega)]; exact hM.2.2.1) (by rw [hS1]; exact ht1) hd1 hc1 (by rw [f1 184 43 (by omega) (by omega)]; exact hM.2.2.2.2.2.2)
    have hV1 : sr_V w w1 := fun k i a b c => ⟨f1 k i (by omega) b, by rw [f2]⟩
    have hlen : (l ++ (J ++ s)).length = l.length + S1 := by rw [List.length_append, hS1]
    refine wk_call (kd := 0) (i := 429) xd_48e46800 rfl (wk_cal (as := [.inr (.inr (some 184))]) (t := []) xl_9fb905c4 rfl xn_e3da6fee xc_fa74d1ed rfl rfl xv_36cad7ca rfl) (cm_C_mono (by omega) hC1) ?_
    refine wk_aload_n xd_a96fcf83 rfl ?_
    refine aw_ldc2 xl_7e74c0a9 rfl xd_3761b37c ?_
    obtain ⟨xw12_8, hCw12_8, hxw12_8⟩ := mw_ok (w := w1) (l := (Int64.ofNat 6385252)) (c := tx_rw.getD 12 0) (by decide) (tx_rw32 (by omega)) hM1.1.2.1
    have ew12_8 : xw12_8.toInt = 0 := hxw12_8.elim (fun z => absurd z.2 hw12) (fun z => z.1)
    refine wk_call (kd := 0) (i := 210) xd_d968e3bc rfl (wk_cal (as := [.inr (.inr (some 184)), .inr (.inl (Int64.ofNat 6385252))]) (t := []) xl_e0444f12 rfl xn_94b640da xc_24159032 rfl rfl xv_bdbd9e17 rfl) (cm_C_mono (by omega) hCw12_8) ?_
    refine wk_if xd_3943ba61 (t := 24) rfl (fun h => absurd (aw_ne_t ew12_8 hb_z h) (by omega)) (fun _ => ?_)
    refine wk_aload_n xd_952a5fd2 rfl ?_
    refine aw_ldc2 xl_d8ce3c22 rfl xd_9dd5aee1 ?_
    obtain ⟨xw11_18, hCw11_18, hxw11_18⟩ := mw_ok (w := w1) (l := (Int64.ofNat 28530)) (c := tx_rw.getD 11 0) (by decide) (tx_rw32 (by omega)) hM1.1.2.1
    have ew11_18 : xw11_18.toInt = 0 := hxw11_18.elim (fun z => absurd z.2 hw11) (fun z => z.1)
    refine wk_call (kd := 0) (i := 210) xd_9468a880 rfl (wk_cal (as := [.inr (.inr (some 184)), .inr (.inl (Int64.ofNat 28530))]) (t := []) xl_e0444f12 rfl xn_94b640da xc_24159032 rfl rfl xv_bdbd9e17 rfl) (cm_C_mono (by omega) hCw11_18) ?_
    refine wk_if xd_eda0ac37 (t := 92) rfl (fun _ => ?_) (fun h => absurd (aw_eq_f ew11_18 hb_z h) (by omega))
    refine wk_aload_n xd_aaed1116 rfl ?_
    refine wk_bipush xd_4bd22948 ?_
    obtain ⟨w2, J', hC2, q1, q2, q3, ⟨f3, f4⟩, hK2, ht2, hc2⟩ := sr_joins (till := 22) (vt := ((Int8.ofInt 22).toInt32)) (w := w1) (c := c + l.length) (sr_h212 hs) (by decide) (by omega) hJ hK1 (by rw [← hS1]; exact hM1.2.2.2.1) hM1.2.2.2.2.2.1 (by have := List.length_append (as := J) (bs := s); omega) (by omega)
    obtain ⟨S2, hS2⟩ : ∃ S2, S2 = (J' ++ s).length := ⟨_, rfl⟩
    obtain ⟨c2, hc2e⟩ : ∃ c2, c2 = c + l.length + (J.length - J'.length) := ⟨_, rfl⟩
    have hM2 : sr_M w2 T n m p o S2 d c2 1 := sr_mk hM1 ⟨fun i => f3 185 i (by omega) (by omega), fun i hi => f3 184 i (by omega) (by omega), f4⟩ (by rw [f3 184 40 (by omega) (by omega)]; exact hM1.2.2.1) (by rw [hS2]; exact ht2) (by rw [f3 184 42 (by omega) (by omega)]; exact hM1.2.2.2.2.1) (by rw [hc2e]; exact hc2) (by rw [f3 184 43 (by omega) (by omega)]; exact hM1.2.2.2.2.2.2)
    have hV2 : sr_V w w2 := sr_V_tr hV1 (fun k i a b c => ⟨f3 k i (by omega) b, by rw [f4]⟩)
    have hle1 : S1 = J.length + s.length := by rw [hS1, List.length_append]
    have hle2 : S2 = J'.length + s.length := by rw [hS2, List.length_append]
    have hd9 := Int32.toInt_lt (w2.1 184 42)
    have hd8 := hM2.2.2.2.2.1
    have hJ0 : J' = [] := q3 rfl
    subst hJ0
    have hS2s : S2 = s.length := hS2
    refine wk_call (kd := 0) (i := 432) xd_61e35698 rfl (wk_cal (as := [.inr (.inr (some 184)), .inl ((Int8.ofInt 22).toInt32)]) (t := []) xl_701b531b rfl xn_33df7a20 xc_445d2b36 rfl rfl xv_fe70f5fc rfl) (cm_C_mono (by omega) hC2) ?_
    refine wk_aload_n xd_47c281d9 rfl ?_
    refine wk_bipush xd_3704204a ?_
    obtain ⟨xg41_101, hCg41_101, hxg41_101⟩ := mi_ok (w := w2) (k := ((Int8.ofInt 41).toInt32)) (c := 41) (by decide) hM2.1.2.1
    refine wk_call (kd := 0) (i := 173) xd_9359fcef rfl (wk_cal (as := [.inr (.inr (some 184)), .inl ((Int8.ofInt 41).toInt32)]) (t := []) xl_73055a27 rfl xn_225279b5 xc_ca564353 rfl rfl xv_bcdeec94 rfl) (cm_C_mono (by omega) hCg41_101) ?_
    refine wk_if xd_b7aeddaf (t := 114) rfl (fun h104_2 => ?_) (fun h104_2 => ?_)
    · have h104_2 := aw_eq_t (a := ((xg41_101).toInt : Int)) (b := (0 : Int)) rfl hb_z h104_2
      refine wk_aload_n xd_897a7b20 rfl ?_
      refine wk_iconst xd_7b29b3c0 ?_
      have hMb : sr_M w2 T n m p (o) (S2) (d) (c2) (1) := hM2
      have hBb := rm_bB (w := w2) (k := (Int32.ofInt 1)) (c := 1) (by decide) hMb.1.2.1.1
      have hVb : sr_V w (cm_u1 (cm_u1 w2 184 15 (Int32.ofInt 1)) 184 16 ((cm_u1 w2 184 15 (Int32.ofInt 1)).1 184 12)) := sr_V_tr hV2 (sr_V_E (rm_E_B hBb))
      refine wk_call (kd := 0) (i := 176) xd_82d4ec02 rfl (wk_cal (as := [.inr (.inr (some 184)), .inl (Int32.ofInt 1)]) (t := []) xl_05a5d0ae rfl xn_f63023b8 xc_1907b494 rfl rfl xv_a1095a1b rfl) (cm_C_mono (by omega) (mb_ok (w := w2) (k := (Int32.ofInt 1)))) ?_
      exact wk_ireturn xd_a956a3cc xr_b1910b0e wk_z0 ⟨_, _, rfl, hVb, by decide, (cr_B_B hBb)⟩
    · have h104_2 := aw_eq_f (a := ((xg41_101).toInt : Int)) (b := (0 : Int)) rfl hb_z h104_2
      have hg9 : (tx_tk T n m p).1 = 3 ∧ (tx_tk T n m p).2.2.2.1 = 41 := hxg41_101.elim (fun z => z.2) (fun z => absurd z.1 (by omega))
      have hs0 : s = [] := Classical.byContradiction (fun z => h41 z hg9)
      have hs00 : s.length = 0 := by rw [hs0]; rfl
      refine wk_aload_n xd_7eba273a rfl ?_
      refine wk_getI xf_6a36cb46 xd_6cf7b8d7 ?_
      refine wk_if xd_ce3d8998 (t := 120) rfl (fun h111_3 => ?_) (fun h111_3 => ?_)
      · have h111_3 := aw_ne_t (a := ((S2 : Int) : Int)) (b := (0 : Int)) (show ((w2.1 184 41)).toInt = ((S2 : Int) : Int) from (hM2.2.2.2.1.trans (by omega))) hb_z h111_3
        exfalso
        omega
      · have h111_3 := aw_ne_f (a := ((S2 : Int) : Int)) (b := (0 : Int)) (show ((w2.1 184 41)).toInt = ((S2 : Int) : Int) from (hM2.2.2.2.1.trans (by omega))) hb_z h111_3
        refine wk_aload_n xd_897a7b20 rfl ?_
        refine wk_iconst xd_7b29b3c0 ?_
        have hMb : sr_M w2 T n m p (o) (S2) (d) (c2) (1) := hM2
        have hBb := rm_bB (w := w2) (k := (Int32.ofInt 1)) (c := 1) (by decide) hMb.1.2.1.1
        have hVb : sr_V w (cm_u1 (cm_u1 w2 184 15 (Int32.ofInt 1)) 184 16 ((cm_u1 w2 184 15 (Int32.ofInt 1)).1 184 12)) := sr_V_tr hV2 (sr_V_E (rm_E_B hBb))
        refine wk_call (kd := 0) (i := 176) xd_82d4ec02 rfl (wk_cal (as := [.inr (.inr (some 184)), .inl (Int32.ofInt 1)]) (t := []) xl_05a5d0ae rfl xn_f63023b8 xc_1907b494 rfl rfl xv_a1095a1b rfl) (cm_C_mono (by omega) (mb_ok (w := w2) (k := (Int32.ofInt 1)))) ?_
        exact wk_ireturn xd_a956a3cc xr_b1910b0e wk_z0 ⟨_, _, rfl, hVb, by decide, (cr_B_B hBb)⟩
  obtain ⟨oo, hC, x, w', rfl, a⟩ := h9
  exact ⟨x, w', hC, a⟩
theorem rm_C_num9 {w : cm_W} {t : sp_T} (h : rm_C w t) (h2 : t.1 = 2) : 0 ≤ t.2.2.2.1 ∧ t.2.2.2.1 ≤ 999 := by
  obtain ⟨_, _, h⟩ := h
  rcases h with a | ⟨a, _⟩ | ⟨_, _, _, b, c⟩ | ⟨a, _⟩ | a
  · omega
  · omega
  · exact ⟨b, c⟩
  · omega
  · omega
section SP3
variable {T : Nat → Int} {n m o p : Nat}
theorem sp_cmp_y (h1 : (tx_tk T n m p).1 = 3 ∧ 60 ≤ (tx_tk T n m p).2.2.2.1 ∧ (tx_tk T n m p).2.2.2.1 ≤ 62) (h2 : (tx_tk T n m (tx_tk T n m p).2.2.1).1 = 2) (h3 : 0 ≤ (tx_tk T n m (tx_tk T n m p).2.2.1).2.2.2.1 ∧ (tx_tk T n m (tx_tk T n m p).2.2.1).2.2.2.1 ≤ 999) : sp_cmp T n m o p = .inr (o, (tx_tk T n m (tx_tk T n m p).2.2.1).2.2.1) := by
  have e : tx_num (tx_tk T n m (tx_tk T n m p).2.2.1) 0 999 = 0 := (if_pos h2).trans (if_pos h3)
  exact (if_pos h1).trans (if_pos e)
theorem sp_cmp_1 (h1 : ¬ ((tx_tk T n m p).1 = 3 ∧ 60 ≤ (tx_tk T n m p).2.2.2.1 ∧ (tx_tk T n m p).2.2.2.1 ≤ 62)) : sp_cmp T n m o p = .inl (1, (tx_tk T n m p).2.1) := if_neg h1
theorem sp_cmp_2 (h1 : (tx_tk T n m p).1 = 3 ∧ 60 ≤ (tx_tk T n m p).2.2.2.1 ∧ (tx_tk T n m p).2.2.2.1 ≤ 62) (h2 : (tx_tk T n m (tx_tk T n m p).2.2.1).1 ≠ 2) : sp_cmp T n m o p = .inl (1, (tx_tk T n m (tx_tk T n m p).2.2.1).2.1) := by
  have e : tx_num (tx_tk T n m (tx_tk T n m p).2.2.1) 0 999 = 1 := if_neg h2
  unfold sp_cmp
  rw [if_pos h1, e]
  rfl
end SP3
theorem op_no {T : Nat → Int} {n m p o t d c : Nat} {h : Nat → Int} {nm : Nat → Nat} {s : List Nat} {w : cm_W} (hR : mv_R w h nm) (hM : sr_M w T n m p o t d c 0) (hK : sr_K w s) (ht : t = s.length) (hin : c + t ≤ 2 * o) (ho : o ≤ 20) (hn : sp_no (tx_tk T n m p)) : ∃ x w', cm_C 5 134 [.inr (.inr (some 184))] w (some (.inl x), w') ∧ sr_V w w' ∧ x.toInt = 0 ∧ cr_B w' 1 (tx_tk T n m p).2.1 := by
  have h9 : ∃ oo, cm_C (4 + 1) 134 [.inr (.inr (some 184))] w oo ∧ (fun oo : cm_O => ∃ x w', oo = (some (.inl x), w') ∧ sr_V w w' ∧ x.toInt = 0 ∧ cr_B w' 1 (tx_tk T n m p).2.1) oo := by
    refine wk_entry (by rw [xm_48b35298]; exact Nat.le_of_ble_eq_true rfl) ?_
    rw [show cm_ent 134 [.inr (.inr (some 184))] = [some (.inr (.inr (some 184))), none, none, none, none] from by unfold cm_ent; rw [xm_48b35298]; rfl]
    refine wk_aload_n xd_a1fb5497 rfl ?_
    refine aw_ldc2 xl_89aa3103 rfl xd_5773a0fa ?_
    obtain ⟨xw13_4, hCw13_4, hxw13_4⟩ := mw_ok (w := w) (l := (Int64.ofNat 7237492)) (c := tx_rw.getD 13 0) (by decide) (tx_rw32 (by omega)) hM.1.2.1
    have ew13_4 : xw13_4.toInt = 0 := hxw13_4.elim (fun z => absurd z.2 (hn.2 13 (by omega) (by omega))) (fun z => z.1)
    refine wk_call (kd := 0) (i := 210) xd_0deea7b7 rfl (wk_cal (as := [.inr (.inr (some 184)), .inr (.inl (Int64.ofNat 7237492))]) (t := []) xl_7862eed5 rfl xn_94b640da xc_24159032 rfl rfl xv_bdbd9e17 rfl) (cm_C_mono (by omega) hCw13_4) ?_
    refine wk_istore_n xd_c2c3eb22 (by rw [xm_48b35298]; rfl) rfl ?_
    refine wk_aload_n xd_a14217b1 rfl ?_
    refine wk_bipush xd_ece49f92 ?_
    obtain ⟨xg40_11, hCg40_11, hxg40_11⟩ := mi_ok (w := w) (k := ((Int8.ofInt 40).toInt32)) (c := 40) (by decide) hM.1.2.1
    have eg40_11 : xg40_11.toInt = 0 := hxg40_11.elim (fun z => absurd z.2 hn.1) (fun z => z.1)
    refine wk_call (kd := 0) (i := 173) xd_4839f43b rfl (wk_cal (as := [.inr (.inr (some 184)), .inl ((Int8.ofInt 40).toInt32)]) (t := []) xl_eb23fbe0 rfl xn_225279b5 xc_ca564353 rfl rfl xv_bcdeec94 rfl) (cm_C_mono (by omega) hCg40_11) ?_
    refine wk_istore_n xd_00371d67 (by rw [xm_48b35298]; rfl) rfl ?_
    refine wk_aload_n xd_7d8d6bbf rfl ?_
    obtain ⟨xL, hCL, hxL⟩ := sr_leaf (w := w) hM.1.2.1
    have eL : xL.toInt = ((-1) : Int) := by
      rcases hxL with ⟨k', a1, a2, a3, a4⟩ | ⟨a1, a2⟩
      · exact absurd a3 (hn.2 k' (by omega) (by omega))
      · exact a1
    refine wk_call (kd := 0) (i := 420) xd_25dbaac8 rfl (wk_cal (as := [.inr (.inr (some 184))]) (t := []) xl_a8e7eb95 rfl xn_c55f9e10 xc_77da5405 rfl rfl xv_50854d28 rfl) (cm_C_mono (by omega) hCL) ?_
    refine wk_istore_n xd_0779f311 (by rw [xm_48b35298]; rfl) rfl ?_
    refine wk_iload_n xd_d9df730d rfl ?_
    refine wk_if xd_05282231 (t := 38) rfl (fun h => absurd (aw_ne_t ew13_4 hb_z h) (by omega)) (fun _ => ?_)
    refine wk_iload_n xd_9e23a84e rfl ?_
    refine wk_if xd_91e9efb4 (t := 38) rfl (fun h => absurd (aw_ne_t eg40_11 hb_z h) (by omega)) (fun _ => ?_)
    refine wk_iload_n xd_a3a6634b rfl ?_
    refine wk_if xd_4f86be8c (t := 38) rfl (fun h => absurd (aw_ge_t eL hb_z h) (by omega)) (fun _ => ?_)
    refine wk_aload_n xd_d20f3f1e rfl ?_
    refine wk_iconst xd_d0c3907f ?_
    have hMb : sr_M w T n m p (o) (t) (d) (c) (0) := hM
    have hBb := rm_bB (w := w) (k := (Int32.ofInt 1)) (c := 1) (by decide) hMb.1.2.1.1
    have hVb : sr_V w (cm_u1 (cm_u1 w 184 15 (Int32.ofInt 1)) 184 16 ((cm_u1 w 184 15 (Int32.ofInt 1)).1 184 12)) := sr_V_tr (sr_V_rf w) (sr_V_E (rm_E_B hBb))
    refine wk_call (kd := 0) (i := 176) xd_8d643dcb rfl (wk_cal (as := [.inr (.inr (some 184)), .inl (Int32.ofInt 1)]) (t := []) xl_f124abec rfl xn_f63023b8 xc_1907b494 rfl rfl xv_a1095a1b rfl) (cm_C_mono (by omega) (mb_ok (w := w) (k := (Int32.ofInt 1)))) ?_
    exact wk_ireturn xd_b7ba4c95 xr_d37bfb88 wk_z0 ⟨_, _, rfl, hVb, by decide, (cr_B_B hBb)⟩
  obtain ⟨oo, hC, x, w', rfl, a⟩ := h9
  exact ⟨x, w', hC, a⟩
theorem op_4a {T : Nat → Int} {n m p o t d c : Nat} {h : Nat → Int} {nm : Nat → Nat} {s : List Nat} {w : cm_W} (hR : mv_R w h nm) (hM : sr_M w T n m p o t d c 0) (hK : sr_K w s) (ht : t = s.length) (hin : c + t ≤ 2 * o) (ho : o ≤ 20) (h4 : o = 20 ∨ 8 < d) (ht40 : (tx_tk T n m p).1 = 3 ∧ (tx_tk T n m p).2.2.2.1 = 40) : ∃ x w', cm_C 5 134 [.inr (.inr (some 184))] w (some (.inl x), w') ∧ sr_V w w' ∧ x.toInt = 0 ∧ cr_B w' 4 (tx_tk T n m p).2.1 := by
  have h9 : ∃ oo, cm_C (4 + 1) 134 [.inr (.inr (some 184))] w oo ∧ (fun oo : cm_O => ∃ x w', oo = (some (.inl x), w') ∧ sr_V w w' ∧ x.toInt = 0 ∧ cr_B w' 4 (tx_tk T n m p).2.1) oo := by
    refine wk_entry (by rw [xm_48b35298]; exact Nat.le_of_ble_eq_true rfl) ?_
    rw [show cm_ent 134 [.inr (.inr (some 184))] = [some (.inr (.inr (some 184))), none, none, none, none] from by unfold cm_ent; rw [xm_48b35298]; rfl]
    refine wk_aload_n xd_a1fb5497 rfl ?_
    refine aw_ldc2 xl_89aa3103 rfl xd_5773a0fa ?_
    obtain ⟨xw13_4, hCw13_4, hxw13_4⟩ := mw_ok (w := w) (l := (Int64.ofNat 7237492)) (c := tx_rw.getD 13 0) (by decide) (tx_rw32 (by omega)) hM.1.2.1
    have ew13_4 : xw13_4.toInt = 0 := hxw13_4.elim (fun z => absurd z.2 (fun z => by have := z.1; have := ht40.1; omega)) (fun z => z.1)
    refine wk_call (kd := 0) (i := 210) xd_0deea7b7 rfl (wk_cal (as := [.inr (.inr (some 184)), .inr (.inl (Int64.ofNat 7237492))]) (t := []) xl_7862eed5 rfl xn_94b640da xc_24159032 rfl rfl xv_bdbd9e17 rfl) (cm_C_mono (by omega) hCw13_4) ?_
    refine wk_istore_n xd_c2c3eb22 (by rw [xm_48b35298]; rfl) rfl ?_
    refine wk_aload_n xd_a14217b1 rfl ?_
    refine wk_bipush xd_ece49f92 ?_
    obtain ⟨xg40_11, hCg40_11, hxg40_11⟩ := mi_ok (w := w) (k := ((Int8.ofInt 40).toInt32)) (c := 40) (by decide) hM.1.2.1
    have eg40_11 : xg40_11.toInt = 1 := hxg40_11.elim (fun z => z.1) (fun z => absurd ht40 z.2)
    refine wk_call (kd := 0) (i := 173) xd_4839f43b rfl (wk_cal (as := [.inr (.inr (some 184)), .inl ((Int8.ofInt 40).toInt32)]) (t := []) xl_eb23fbe0 rfl xn_225279b5 xc_ca564353 rfl rfl xv_bcdeec94 rfl) (cm_C_mono (by omega) hCg40_11) ?_
    refine wk_istore_n xd_00371d67 (by rw [xm_48b35298]; rfl) rfl ?_
    refine wk_aload_n xd_7d8d6bbf rfl ?_
    obtain ⟨xL, hCL, hxL⟩ := sr_leaf (w := w) hM.1.2.1
    have eL : xL.toInt = ((-1) : Int) := by
      rcases hxL with ⟨k', a1, a2, a3, a4⟩ | ⟨a1, a2⟩
      · exact absurd a3 ((fun z => by have := z.1; have := ht40.1; omega))
      · exact a1
    refine wk_call (kd := 0) (i := 420) xd_25dbaac8 rfl (wk_cal (as := [.inr (.inr (some 184))]) (t := []) xl_a8e7eb95 rfl xn_c55f9e10 xc_77da5405 rfl rfl xv_50854d28 rfl) (cm_C_mono (by omega) hCL) ?_
    refine wk_istore_n xd_0779f311 (by rw [xm_48b35298]; rfl) rfl ?_
    refine wk_iload_n xd_d9df730d rfl ?_
    refine wk_if xd_05282231 (t := 38) rfl (fun h => absurd (aw_ne_t ew13_4 hb_z h) (by omega)) (fun _ => ?_)
    refine wk_iload_n xd_9e23a84e rfl ?_
    refine wk_if xd_91e9efb4 (t := 38) rfl (fun _ => ?_) (fun h => absurd (aw_ne_f eg40_11 hb_z h) (by omega))
    refine wk_aload_n xd_3f20afd1 rfl ?_
    refine wk_getI xf_4633a7bb xd_810317bd ?_
    refine wk_bipush xd_e39b8983 ?_
    refine wk_icmp xd_41784522 (t := 56) rfl (fun h44_2 => ?_) (fun h44_2 => ?_)
    · have h44_2 := aw_eq_t (a := ((o : Int) : Int)) (b := (20 : Int)) (show ((w.1 184 40)).toInt = ((o : Int) : Int) from (hM.2.2.1.trans (by omega))) (show (((Int8.ofInt 20).toInt32)).toInt = 20 from by decide) h44_2
      refine wk_aload_n xd_626eccdd rfl ?_
      refine wk_iconst xd_a948fe75 ?_
      have hMb : sr_M w T n m p (o) (t) (d) (c) (0) := hM
      have hBb := rm_bB (w := w) (k := (Int32.ofInt 4)) (c := 4) (by decide) hMb.1.2.1.1
      have hVb : sr_V w (cm_u1 (cm_u1 w 184 15 (Int32.ofInt 4)) 184 16 ((cm_u1 w 184 15 (Int32.ofInt 4)).1 184 12)) := sr_V_tr (sr_V_rf w) (sr_V_E (rm_E_B hBb))
      refine wk_call (kd := 0) (i := 176) xd_888bcf38 rfl (wk_cal (as := [.inr (.inr (some 184)), .inl (Int32.ofInt 4)]) (t := []) xl_f124abec rfl xn_f63023b8 xc_1907b494 rfl rfl xv_a1095a1b rfl) (cm_C_mono (by omega) (mb_ok (w := w) (k := (Int32.ofInt 4)))) ?_
      exact wk_ireturn xd_0a0ebe93 xr_d37bfb88 wk_z0 ⟨_, _, rfl, hVb, by decide, (cr_B_B hBb)⟩
    · have h44_2 := aw_eq_f (a := ((o : Int) : Int)) (b := (20 : Int)) (show ((w.1 184 40)).toInt = ((o : Int) : Int) from (hM.2.2.1.trans (by omega))) (show (((Int8.ofInt 20).toInt32)).toInt = 20 from by decide) h44_2
      refine wk_aload_n xd_7838432e rfl ?_
      refine wk_getI xf_db488d2b xd_c7df23c2 ?_
      refine wk_bipush xd_fe1716ce ?_
      refine wk_icmp xd_39ca0028 (t := 62) rfl (fun h53_3 => ?_) (fun h53_3 => ?_)
      · have h53_3 := aw_le_t (a := ((d : Int) : Int)) (b := (8 : Int)) (show ((w.1 184 42)).toInt = ((d : Int) : Int) from (hM.2.2.2.2.1.trans (by omega))) (show (((Int8.ofInt 8).toInt32)).toInt = 8 from by decide) h53_3
        exfalso
        omega
      · have h53_3 := aw_le_f (a := ((d : Int) : Int)) (b := (8 : Int)) (show ((w.1 184 42)).toInt = ((d : Int) : Int) from (hM.2.2.2.2.1.trans (by omega))) (show (((Int8.ofInt 8).toInt32)).toInt = 8 from by decide) h53_3
        refine wk_aload_n xd_626eccdd rfl ?_
        refine wk_iconst xd_a948fe75 ?_
        have hMb : sr_M w T n m p (o) (t) (d) (c) (0) := hM
        have hBb := rm_bB (w := w) (k := (Int32.ofInt 4)) (c := 4) (by decide) hMb.1.2.1.1
        have hVb : sr_V w (cm_u1 (cm_u1 w 184 15 (Int32.ofInt 4)) 184 16 ((cm_u1 w 184 15 (Int32.ofInt 4)).1 184 12)) := sr_V_tr (sr_V_rf w) (sr_V_E (rm_E_B hBb))
        refine wk_call (kd := 0) (i := 176) xd_888bcf38 rfl (wk_cal (as := [.inr (.inr (some 184)), .inl (Int32.ofInt 4)]) (t := []) xl_f124abec rfl xn_f63023b8 xc_1907b494 rfl rfl xv_a1095a1b rfl) (cm_C_mono (by omega) (mb_ok (w := w) (k := (Int32.ofInt 4)))) ?_
        exact wk_ireturn xd_0a0ebe93 xr_d37bfb88 wk_z0 ⟨_, _, rfl, hVb, by decide, (cr_B_B hBb)⟩
  obtain ⟨oo, hC, x, w', rfl, a⟩ := h9
  exact ⟨x, w', hC, a⟩
theorem op_4b {T : Nat → Int} {n m p o t d c : Nat} {h : Nat → Int} {nm : Nat → Nat} {s : List Nat} {w : cm_W} (hR : mv_R w h nm) (hM : sr_M w T n m p o t d c 0) (hK : sr_K w s) (ht : t = s.length) (hin : c + t ≤ 2 * o) (ho : o ≤ 20) (h4 : o = 20 ∨ 8 < d) (hw : ps_wd (tx_tk T n m p) 13) : ∃ x w', cm_C 5 134 [.inr (.inr (some 184))] w (some (.inl x), w') ∧ sr_V w w' ∧ x.toInt = 0 ∧ cr_B w' 4 (tx_tk T n m p).2.1 := by
  have h9 : ∃ oo, cm_C (4 + 1) 134 [.inr (.inr (some 184))] w oo ∧ (fun oo : cm_O => ∃ x w', oo = (some (.inl x), w') ∧ sr_V w w' ∧ x.toInt = 0 ∧ cr_B w' 4 (tx_tk T n m p).2.1) oo := by
    refine wk_entry (by rw [xm_48b35298]; exact Nat.le_of_ble_eq_true rfl) ?_
    rw [show cm_ent 134 [.inr (.inr (some 184))] = [some (.inr (.inr (some 184))), none, none, none, none] from by unfold cm_ent; rw [xm_48b35298]; rfl]
    refine wk_aload_n xd_a1fb5497 rfl ?_
    refine aw_ldc2 xl_89aa3103 rfl xd_5773a0fa ?_
    obtain ⟨xw13_4, hCw13_4, hxw13_4⟩ := mw_ok (w := w) (l := (Int64.ofNat 7237492)) (c := tx_rw.getD 13 0) (by decide) (tx_rw32 (by omega)) hM.1.2.1
    have ew13_4 : xw13_4.toInt = 1 := hxw13_4.elim (fun z => z.1) (fun z => absurd hw z.2)
    refine wk_call (kd := 0) (i := 210) xd_0deea7b7 rfl (wk_cal (as := [.inr (.inr (some 184)), .inr (.inl (Int64.ofNat 7237492))]) (t := []) xl_7862eed5 rfl xn_94b640da xc_24159032 rfl rfl xv_bdbd9e17 rfl) (cm_C_mono (by omega) hCw13_4) ?_
    refine wk_istore_n xd_c2c3eb22 (by rw [xm_48b35298]; rfl) rfl ?_
    refine wk_aload_n xd_a14217b1 rfl ?_
    refine wk_bipush xd_ece49f92 ?_
    obtain ⟨xg40_11, hCg40_11, hxg40_11⟩ := mi_ok (w := w) (k := ((Int8.ofInt 40).toInt32)) (c := 40) (by decide) hM.1.2.1
    have eg40_11 : xg40_11.toInt = 0 := hxg40_11.elim (fun z => absurd z.2 (fun z => by have := z.1; have := hw.1; omega)) (fun z => z.1)
    refine wk_call (kd := 0) (i := 173) xd_4839f43b rfl (wk_cal (as := [.inr (.inr (some 184)), .inl ((Int8.ofInt 40).toInt32)]) (t := []) xl_eb23fbe0 rfl xn_225279b5 xc_ca564353 rfl rfl xv_bcdeec94 rfl) (cm_C_mono (by omega) hCg40_11) ?_
    refine wk_istore_n xd_00371d67 (by rw [xm_48b35298]; rfl) rfl ?_
    refine wk_aload_n xd_7d8d6bbf rfl ?_
    obtain ⟨xL, hCL, hxL⟩ := sr_leaf (w := w) hM.1.2.1
    have eL : xL.toInt = ((-1) : Int) := by
      rcases hxL with ⟨k', a1, a2, a3, a4⟩ | ⟨a1, a2⟩
      · exact absurd a3 (ps_wd_ne (i := k') hw (by omega) (by omega) (by omega))
      · exact a1
    refine wk_call (kd := 0) (i := 420) xd_25dbaac8 rfl (wk_cal (as := [.inr (.inr (some 184))]) (t := []) xl_a8e7eb95 rfl xn_c55f9e10 xc_77da5405 rfl rfl xv_50854d28 rfl) (cm_C_mono (by omega) hCL) ?_
    refine wk_istore_n xd_0779f311 (by rw [xm_48b35298]; rfl) rfl ?_
    refine wk_iload_n xd_d9df730d rfl ?_
    refine wk_if xd_05282231 (t := 38) rfl (fun _ => ?_) (fun h => absurd (aw_ne_f ew13_4 hb_z h) (by omega))
    refine wk_aload_n xd_3f20afd1 rfl ?_
    refine wk_getI xf_4633a7bb xd_810317bd ?_
    refine wk_bipush xd_e39b8983 ?_
    refine wk_icmp xd_41784522 (t := 56) rfl (fun h44_1 => ?_) (fun h44_1 => ?_)
    · have h44_1 := aw_eq_t (a := ((o : Int) : Int)) (b := (20 : Int)) (show ((w.1 184 40)).toInt = ((o : Int) : Int) from (hM.2.2.1.trans (by omega))) (show (((Int8.ofInt 20).toInt32)).toInt = 20 from by decide) h44_1
      refine wk_aload_n xd_626eccdd rfl ?_
      refine wk_iconst xd_a948fe75 ?_
      have hMb : sr_M w T n m p (o) (t) (d) (c) (0) := hM
      have hBb := rm_bB (w := w) (k := (Int32.ofInt 4)) (c := 4) (by decide) hMb.1.2.1.1
      have hVb : sr_V w (cm_u1 (cm_u1 w 184 15 (Int32.ofInt 4)) 184 16 ((cm_u1 w 184 15 (Int32.ofInt 4)).1 184 12)) := sr_V_tr (sr_V_rf w) (sr_V_E (rm_E_B hBb))
      refine wk_call (kd := 0) (i := 176) xd_888bcf38 rfl (wk_cal (as := [.inr (.inr (some 184)), .inl (Int32.ofInt 4)]) (t := []) xl_f124abec rfl xn_f63023b8 xc_1907b494 rfl rfl xv_a1095a1b rfl) (cm_C_mono (by omega) (mb_ok (w := w) (k := (Int32.ofInt 4)))) ?_
      exact wk_ireturn xd_0a0ebe93 xr_d37bfb88 wk_z0 ⟨_, _, rfl, hVb, by decide, (cr_B_B hBb)⟩
    · have h44_1 := aw_eq_f (a := ((o : Int) : Int)) (b := (20 : Int)) (show ((w.1 184 40)).toInt = ((o : Int) : Int) from (hM.2.2.1.trans (by omega))) (show (((Int8.ofInt 20).toInt32)).toInt = 20 from by decide) h44_1
      refine wk_aload_n xd_7838432e rfl ?_
      refine wk_getI xf_db488d2b xd_c7df23c2 ?_
      refine wk_bipush xd_fe1716ce ?_
      refine wk_icmp xd_39ca0028 (t := 62) rfl (fun h53_2 => ?_) (fun h53_2 => ?_)
      · have h53_2 := aw_le_t (a := ((d : Int) : Int)) (b := (8 : Int)) (show ((w.1 184 42)).toInt = ((d : Int) : Int) from (hM.2.2.2.2.1.trans (by omega))) (show (((Int8.ofInt 8).toInt32)).toInt = 8 from by decide) h53_2
        exfalso
        omega
      · have h53_2 := aw_le_f (a := ((d : Int) : Int)) (b := (8 : Int)) (show ((w.1 184 42)).toInt = ((d : Int) : Int) from (hM.2.2.2.2.1.trans (by omega))) (show (((Int8.ofInt 8).toInt32)).toInt = 8 from by decide) h53_2
        refine wk_aload_n xd_626eccdd rfl ?_
        refine wk_iconst xd_a948fe75 ?_
        have hMb : sr_M w T n m p (o) (t) (d) (c) (0) := hM
        have hBb := rm_bB (w := w) (k := (Int32.ofInt 4)) (c := 4) (by decide) hMb.1.2.1.1
        have hVb : sr_V w (cm_u1 (cm_u1 w 184 15 (Int32.ofInt 4)) 184 16 ((cm_u1 w 184 15 (Int32.ofInt 4)).1 184 12)) := sr_V_tr (sr_V_rf w) (sr_V_E (rm_E_B hBb))
        refine wk_call (kd := 0) (i := 176) xd_888bcf38 rfl (wk_cal (as := [.inr (.inr (some 184)), .inl (Int32.ofInt 4)]) (t := []) xl_f124abec rfl xn_f63023b8 xc_1907b494 rfl rfl xv_a1095a1b rfl) (cm_C_mono (by omega) (mb_ok (w := w) (k := (Int32.ofInt 4)))) ?_
        exact wk_ireturn xd_0a0ebe93 xr_d37bfb88 wk_z0 ⟨_, _, rfl, hVb, by decide, (cr_B_B hBb)⟩
  obtain ⟨oo, hC, x, w', rfl, a⟩ := h9
  exact ⟨x, w', hC, a⟩
theorem op_4c {T : Nat → Int} {n m p o t d c : Nat} {h : Nat → Int} {nm : Nat → Nat} {s : List Nat} {w : cm_W} (hR : mv_R w h nm) (hM : sr_M w T n m p o t d c 0) (hK : sr_K w s) (ht : t = s.length) (hin : c + t ≤ 2 * o) (ho : o ≤ 20) (h4 : o = 20 ∨ 8 < d) {k : Nat} (hk1 : 14 ≤ k) (hk2 : k ≤ 21) (hw : ps_wd (tx_tk T n m p) k) : ∃ x w', cm_C 5 134 [.inr (.inr (some 184))] w (some (.inl x), w') ∧ sr_V w w' ∧ x.toInt = 0 ∧ cr_B w' 4 (tx_tk T n m p).2.1 := by
  have h9 : ∃ oo, cm_C (4 + 1) 134 [.inr (.inr (some 184))] w oo ∧ (fun oo : cm_O => ∃ x w', oo = (some (.inl x), w') ∧ sr_V w w' ∧ x.toInt = 0 ∧ cr_B w' 4 (tx_tk T n m p).2.1) oo := by
    refine wk_entry (by rw [xm_48b35298]; exact Nat.le_of_ble_eq_true rfl) ?_
    rw [show cm_ent 134 [.inr (.inr (some 184))] = [some (.inr (.inr (some 184))), none, none, none, none] from by unfold cm_ent; rw [xm_48b35298]; rfl]
    refine wk_aload_n xd_a1fb5497 rfl ?_
    refine aw_ldc2 xl_89aa3103 rfl xd_5773a0fa ?_
    obtain ⟨xw13_4, hCw13_4, hxw13_4⟩ := mw_ok (w := w) (l := (Int64.ofNat 7237492)) (c := tx_rw.getD 13 0) (by decide) (tx_rw32 (by omega)) hM.1.2.1
    have ew13_4 : xw13_4.toInt = 0 := hxw13_4.elim (fun z => absurd z.2 (ps_wd_ne (i := 13) hw (by omega) (by omega) (by omega))) (fun z => z.1)
    refine wk_call (kd := 0) (i := 210) xd_0deea7b7 rfl (wk_cal (as := [.inr (.inr (some 184)), .inr (.inl (Int64.ofNat 7237492))]) (t := []) xl_7862eed5 rfl xn_94b640da xc_24159032 rfl rfl xv_bdbd9e17 rfl) (cm_C_mono (by omega) hCw13_4) ?_
    refine wk_istore_n xd_c2c3eb22 (by rw [xm_48b35298]; rfl) rfl ?_
    refine wk_aload_n xd_a14217b1 rfl ?_
    refine wk_bipush xd_ece49f92 ?_
    obtain ⟨xg40_11, hCg40_11, hxg40_11⟩ := mi_ok (w := w) (k := ((Int8.ofInt 40).toInt32)) (c := 40) (by decide) hM.1.2.1
    have eg40_11 : xg40_11.toInt = 0 := hxg40_11.elim (fun z => absurd z.2 (fun z => by have := z.1; have := hw.1; omega)) (fun z => z.1)
    refine wk_call (kd := 0) (i := 173) xd_4839f43b rfl (wk_cal (as := [.inr (.inr (some 184)), .inl ((Int8.ofInt 40).toInt32)]) (t := []) xl_eb23fbe0 rfl xn_225279b5 xc_ca564353 rfl rfl xv_bcdeec94 rfl) (cm_C_mono (by omega) hCg40_11) ?_
    refine wk_istore_n xd_00371d67 (by rw [xm_48b35298]; rfl) rfl ?_
    refine wk_aload_n xd_7d8d6bbf rfl ?_
    obtain ⟨xL, hCL, hxL⟩ := sr_leaf (w := w) hM.1.2.1
    have eL : xL.toInt = ((k : Int) + (-14) : Int) := by
      rcases hxL with ⟨k', a1, a2, a3, a4⟩ | ⟨a1, a2⟩
      · by_cases e : k' = k
        · omega
        · exact absurd hw (ps_wd_ne a3 (by omega) (by omega) (fun z => e z.symm))
      · exact absurd hw (a2 k (by omega) (by omega))
    refine wk_call (kd := 0) (i := 420) xd_25dbaac8 rfl (wk_cal (as := [.inr (.inr (some 184))]) (t := []) xl_a8e7eb95 rfl xn_c55f9e10 xc_77da5405 rfl rfl xv_50854d28 rfl) (cm_C_mono (by omega) hCL) ?_
    refine wk_istore_n xd_0779f311 (by rw [xm_48b35298]; rfl) rfl ?_
    refine wk_iload_n xd_d9df730d rfl ?_
    refine wk_if xd_05282231 (t := 38) rfl (fun h => absurd (aw_ne_t ew13_4 hb_z h) (by omega)) (fun _ => ?_)
    refine wk_iload_n xd_9e23a84e rfl ?_
    refine wk_if xd_91e9efb4 (t := 38) rfl (fun h => absurd (aw_ne_t eg40_11 hb_z h) (by omega)) (fun _ => ?_)
    refine wk_iload_n xd_a3a6634b rfl ?_
    refine wk_if xd_4f86be8c (t := 38) rfl (fun h29_2 => ?_) (fun h29_2 => ?_)
    · have h29_2 := aw_ge_t (a := ((k : Int) + (-14) : Int)) (b := (0 : Int)) eL hb_z h29_2
      refine wk_aload_n xd_3f20afd1 rfl ?_
      refine wk_getI xf_4633a7bb xd_810317bd ?_
      refine wk_bipush xd_e39b8983 ?_
      refine wk_icmp xd_41784522 (t := 56) rfl (fun h44_3 => ?_) (fun h44_3 => ?_)
      · have h44_3 := aw_eq_t (a := ((o : Int) : Int)) (b := (20 : Int)) (show ((w.1 184 40)).toInt = ((o : Int) : Int) from (hM.2.2.1.trans (by omega))) (show (((Int8.ofInt 20).toInt32)).toInt = 20 from by decide) h44_3
        refine wk_aload_n xd_626eccdd rfl ?_
        refine wk_iconst xd_a948fe75 ?_
        have hMb : sr_M w T n m p (o) (t) (d) (c) (0) := hM
        have hBb := rm_bB (w := w) (k := (Int32.ofInt 4)) (c := 4) (by decide) hMb.1.2.1.1
        have hVb : sr_V w (cm_u1 (cm_u1 w 184 15 (Int32.ofInt 4)) 184 16 ((cm_u1 w 184 15 (Int32.ofInt 4)).1 184 12)) := sr_V_tr (sr_V_rf w) (sr_V_E (rm_E_B hBb))
        refine wk_call (kd := 0) (i := 176) xd_888bcf38 rfl (wk_cal (as := [.inr (.inr (some 184)), .inl (Int32.ofInt 4)]) (t := []) xl_f124abec rfl xn_f63023b8 xc_1907b494 rfl rfl xv_a1095a1b rfl) (cm_C_mono (by omega) (mb_ok (w := w) (k := (Int32.ofInt 4)))) ?_
        exact wk_ireturn xd_0a0ebe93 xr_d37bfb88 wk_z0 ⟨_, _, rfl, hVb, by decide, (cr_B_B hBb)⟩
      · have h44_3 := aw_eq_f (a := ((o : Int) : Int)) (b := (20 : Int)) (show ((w.1 184 40)).toInt = ((o : Int) : Int) from (hM.2.2.1.trans (by omega))) (show (((Int8.ofInt 20).toInt32)).toInt = 20 from by decide) h44_3
        refine wk_aload_n xd_7838432e rfl ?_
        refine wk_getI xf_db488d2b xd_c7df23c2 ?_
        refine wk_bipush xd_fe1716ce ?_
        refine wk_icmp xd_39ca0028 (t := 62) rfl (fun h53_4 => ?_) (fun h53_4 => ?_)
        · have h53_4 := aw_le_t (a := ((d : Int) : Int)) (b := (8 : Int)) (show ((w.1 184 42)).toInt = ((d : Int) : Int) from (hM.2.2.2.2.1.trans (by omega))) (show (((Int8.ofInt 8).toInt32)).toInt = 8 from by decide) h53_4
          exfalso
          omega
        · have h53_4 := aw_le_f (a := ((d : Int) : Int)) (b := (8 : Int)) (show ((w.1 184 42)).toInt = ((d : Int) : Int) from (hM.2.2.2.2.1.trans (by omega))) (show (((Int8.ofInt 8).toInt32)).toInt = 8 from by decide) h53_4
          refine wk_aload_n xd_626eccdd rfl ?_
          refine wk_iconst xd_a948fe75 ?_
          have hMb : sr_M w T n m p (o) (t) (d) (c) (0) := hM
          have hBb := rm_bB (w := w) (k := (Int32.ofInt 4)) (c := 4) (by decide) hMb.1.2.1.1
          have hVb : sr_V w (cm_u1 (cm_u1 w 184 15 (Int32.ofInt 4)) 184 16 ((cm_u1 w 184 15 (Int32.ofInt 4)).1 184 12)) := sr_V_tr (sr_V_rf w) (sr_V_E (rm_E_B hBb))
          refine wk_call (kd := 0) (i := 176) xd_888bcf38 rfl (wk_cal (as := [.inr (.inr (some 184)), .inl (Int32.ofInt 4)]) (t := []) xl_f124abec rfl xn_f63023b8 xc_1907b494 rfl rfl xv_a1095a1b rfl) (cm_C_mono (by omega) (mb_ok (w := w) (k := (Int32.ofInt 4)))) ?_
          exact wk_ireturn xd_0a0ebe93 xr_d37bfb88 wk_z0 ⟨_, _, rfl, hVb, by decide, (cr_B_B hBb)⟩
    · have h29_2 := aw_ge_f (a := ((k : Int) + (-14) : Int)) (b := (0 : Int)) eL hb_z h29_2
      exfalso
      omega
  obtain ⟨oo, hC, x, w', rfl, a⟩ := h9
  exact ⟨x, w', hC, a⟩
theorem op_40 {T : Nat → Int} {n m p o t d c : Nat} {h : Nat → Int} {nm : Nat → Nat} {s : List Nat} {w : cm_W} (hR : mv_R w h nm) (hM : sr_M w T n m p o t d c 0) (hK : sr_K w s) (ht : t = s.length) (hin : c + t ≤ 2 * o) (ho : o ≤ 20) (h4a : o ≠ 20) (h4b : d ≤ 8) (ht40 : (tx_tk T n m p).1 = 3 ∧ (tx_tk T n m p).2.2.2.1 = 40) : ∃ x w', cm_C 5 134 [.inr (.inr (some 184))] w (some (.inl x), w') ∧ sr_V w w' ∧ x.toInt = 1 ∧ sr_M w' T n m (tx_tk T n m p).2.2.1 (o + 1) (t + 1) (d + 1) c 0 ∧ sr_K w' (23 :: s) := by
  have hsz : 1 ≤ (tx_tk T n m p).1 ∧ (tx_tk T n m p).1 ≤ 3 := by have := ht40.1; omega
  have h9 : ∃ oo, cm_C (4 + 1) 134 [.inr (.inr (some 184))] w oo ∧ (fun oo : cm_O => ∃ x w', oo = (some (.inl x), w') ∧ sr_V w w' ∧ x.toInt = 1 ∧ sr_M w' T n m (tx_tk T n m p).2.2.1 (o + 1) (t + 1) (d + 1) c 0 ∧ sr_K w' (23 :: s)) oo := by
    refine wk_entry (by rw [xm_48b35298]; exact Nat.le_of_ble_eq_true rfl) ?_
    rw [show cm_ent 134 [.inr (.inr (some 184))] = [some (.inr (.inr (some 184))), none, none, none, none] from by unfold cm_ent; rw [xm_48b35298]; rfl]
    refine wk_aload_n xd_a1fb5497 rfl ?_
    refine aw_ldc2 xl_89aa3103 rfl xd_5773a0fa ?_
    obtain ⟨xw13_4, hCw13_4, hxw13_4⟩ := mw_ok (w := w) (l := (Int64.ofNat 7237492)) (c := tx_rw.getD 13 0) (by decide) (tx_rw32 (by omega)) hM.1.2.1
    have ew13_4 : xw13_4.toInt = 0 := hxw13_4.elim (fun z => absurd z.2 (fun z => by have := z.1; have := ht40.1; omega)) (fun z => z.1)
    refine wk_call (kd := 0) (i := 210) xd_0deea7b7 rfl (wk_cal (as := [.inr (.inr (some 184)), .inr (.inl (Int64.ofNat 7237492))]) (t := []) xl_7862eed5 rfl xn_94b640da xc_24159032 rfl rfl xv_bdbd9e17 rfl) (cm_C_mono (by omega) hCw13_4) ?_
    refine wk_istore_n xd_c2c3eb22 (by rw [xm_48b35298]; rfl) rfl ?_
    refine wk_aload_n xd_a14217b1 rfl ?_
    refine wk_bipush xd_ece49f92 ?_
    obtain ⟨xg40_11, hCg40_11, hxg40_11⟩ := mi_ok (w := w) (k := ((Int8.ofInt 40).toInt32)) (c := 40) (by decide) hM.1.2.1
    have eg40_11 : xg40_11.toInt = 1 := hxg40_11.elim (fun z => z.1) (fun z => absurd ht40 z.2)
    refine wk_call (kd := 0) (i := 173) xd_4839f43b rfl (wk_cal (as := [.inr (.inr (some 184)), .inl ((Int8.ofInt 40).toInt32)]) (t := []) xl_eb23fbe0 rfl xn_225279b5 xc_ca564353 rfl rfl xv_bcdeec94 rfl) (cm_C_mono (by omega) hCg40_11) ?_
    refine wk_istore_n xd_00371d67 (by rw [xm_48b35298]; rfl) rfl ?_
    refine wk_aload_n xd_7d8d6bbf rfl ?_
    obtain ⟨xL, hCL, hxL⟩ := sr_leaf (w := w) hM.1.2.1
    have eL : xL.toInt = ((-1) : Int) := by
      rcases hxL with ⟨k', a1, a2, a3, a4⟩ | ⟨a1, a2⟩
      · exact absurd a3 ((fun z => by have := z.1; have := ht40.1; omega))
      · exact a1
    refine wk_call (kd := 0) (i := 420) xd_25dbaac8 rfl (wk_cal (as := [.inr (.inr (some 184))]) (t := []) xl_a8e7eb95 rfl xn_c55f9e10 xc_77da5405 rfl rfl xv_50854d28 rfl) (cm_C_mono (by omega) hCL) ?_
    refine wk_istore_n xd_0779f311 (by rw [xm_48b35298]; rfl) rfl ?_
    refine wk_iload_n xd_d9df730d rfl ?_
    refine wk_if xd_05282231 (t := 38) rfl (fun h => absurd (aw_ne_t ew13_4 hb_z h) (by omega)) (fun _ => ?_)
    refine wk_iload_n xd_9e23a84e rfl ?_
    refine wk_if xd_91e9efb4 (t := 38) rfl (fun _ => ?_) (fun h => absurd (aw_ne_f eg40_11 hb_z h) (by omega))
    refine wk_aload_n xd_3f20afd1 rfl ?_
    refine wk_getI xf_4633a7bb xd_810317bd ?_
    refine wk_bipush xd_e39b8983 ?_
    refine wk_icmp xd_41784522 (t := 56) rfl (fun h44_2 => ?_) (fun h44_2 => ?_)
    · have h44_2 := aw_eq_t (a := ((o : Int) : Int)) (b := (20 : Int)) (show ((w.1 184 40)).toInt = ((o : Int) : Int) from (hM.2.2.1.trans (by omega))) (show (((Int8.ofInt 20).toInt32)).toInt = 20 from by decide) h44_2
      exfalso
      omega
    · have h44_2 := aw_eq_f (a := ((o : Int) : Int)) (b := (20 : Int)) (show ((w.1 184 40)).toInt = ((o : Int) : Int) from (hM.2.2.1.trans (by omega))) (show (((Int8.ofInt 20).toInt32)).toInt = 20 from by decide) h44_2
      refine wk_aload_n xd_7838432e rfl ?_
      refine wk_getI xf_db488d2b xd_c7df23c2 ?_
      refine wk_bipush xd_fe1716ce ?_
      refine wk_icmp xd_39ca0028 (t := 62) rfl (fun h53_3 => ?_) (fun h53_3 => ?_)
      · have h53_3 := aw_le_t (a := ((d : Int) : Int)) (b := (8 : Int)) (show ((w.1 184 42)).toInt = ((d : Int) : Int) from (hM.2.2.2.2.1.trans (by omega))) (show (((Int8.ofInt 8).toInt32)).toInt = 8 from by decide) h53_3
        refine wk_aload_n xd_3a2cc466 rfl ?_
        refine wk_dup_r xd_74bb42e5 ?_
        refine wk_getI xf_4633a7bb xd_166e7a4c ?_
        refine wk_iconst xd_174d4838 ?_
        refine aw_iadd (a := ((o : Int) : Int)) (b := (1 : Int)) (e := ((o : Int) + 1 : Int)) xd_900ab995 (show ((w.1 184 40)).toInt = ((o : Int) : Int) from (hM.2.2.1.trans (by omega))) (show ((Int32.ofInt 1)).toInt = 1 from by decide) (by omega) (by omega) (by omega) (fun v5_ p5_ => ?_)
        refine wk_putI xf_34a287e5 (fun ci => wk_fitI ci) xd_d1723e1d ?_
        refine wk_aload_n xd_bb09a141 rfl ?_
        have hMn6_0 : sr_M (cm_u1 w 184 40 v5_) T n m p ((o + 1)) (t) (d) (c) (0) := (sr_mk (o' := (o + 1)) (t' := t) (d' := d) (c' := c) (f' := 0) hM ⟨fun i => by rw [hs_u1_ne (by omega)], fun i hi => by rw [hs_u1_ne (by omega)], rfl⟩ (by have e9 : ((cm_u1 w 184 40 v5_).1 184 40).toInt = ((o : Int) + 1 : Int) := (show (((cm_u1 w 184 40 v5_).1 184 40)).toInt = ((o : Int) + 1 : Int) from p5_); omega) (by have e9 : ((cm_u1 w 184 40 v5_).1 184 41).toInt = ((t : Int) : Int) := (show (((cm_u1 w 184 40 v5_).1 184 41)).toInt = ((t : Int) : Int) from (hM.2.2.2.1.trans (by omega))); omega) (by have e9 : ((cm_u1 w 184 40 v5_).1 184 42).toInt = ((d : Int) : Int) := (show (((cm_u1 w 184 40 v5_).1 184 42)).toInt = ((d : Int) : Int) from (hM.2.2.2.2.1.trans (by omega))); omega) (by have e9 : ((cm_u1 w 184 40 v5_).1 184 39).toInt = ((c : Int) : Int) := (show (((cm_u1 w 184 40 v5_).1 184 39)).toInt = ((c : Int) : Int) from (hM.2.2.2.2.2.1.trans (by omega))); omega) (by have e9 : ((cm_u1 w 184 40 v5_).1 184 43).toInt = (0 : Int) := (show (((cm_u1 w 184 40 v5_).1 184 43)).toInt = (0 : Int) from (hM.2.2.2.2.2.2.trans (by omega))); omega))
        have hVn6_0 : sr_V w (cm_u1 w 184 40 v5_) := (sr_V_tr (sr_V_rf w) (show sr_V w (cm_u1 w 184 40 v5_) from fun k i a b c => ⟨by rw [hs_u1_ne (by omega)], rfl⟩))
        obtain ⟨wn6_, hCn6_, hSn6_, hMn6_⟩ := sr_next hMn6_0 hsz
        have hVn6_ := sr_V_tr hVn6_0 (sr_V_E (rm_E_S hSn6_))
        have hKn6_ : sr_K wn6_ s := sr_K_lt (w := w) _ (fun i _ => by rw [(hSn6_ 199 i (by omega)).1, hs_u1_ne (by omega)]) hK
        refine wk_call (kd := 0) (i := 179) xd_56092a07 rfl (wk_cal (as := [.inr (.inr (some 184))]) (t := []) xl_b037c8bc rfl xn_00af7311 xc_b2cf5bb1 rfl rfl xv_e7aa8f3d rfl) (cm_C_mono (by omega) hCn6_) ?_
        refine wk_iload_n xd_dc36fa0f rfl ?_
        refine wk_if xd_8ac39bcf (t := 84) rfl (fun h => absurd (aw_ne_t ew13_4 hb_z h) (by omega)) (fun _ => ?_)
        refine wk_iload_n xd_9549f96c rfl ?_
        refine wk_if xd_5b45533c (t := 126) rfl (fun h => absurd (aw_eq_t eg40_11 hb_z h) (by omega)) (fun _ => ?_)
        refine wk_aload_n xd_b5d6d8f2 rfl ?_
        refine wk_getR xf_1029fb0d xd_524c8c8d ?_
        refine wk_aload_n xd_b5333a47 rfl ?_
        refine wk_getI xf_10ed4a63 xd_3121e48a ?_
        refine wk_iload_n xd_be5a3572 rfl ?_
        refine wk_if xd_9227b506 (t := 101) rfl (fun _ => ?_) (fun h => absurd (aw_eq_f ew13_4 hb_z h) (by omega))
        refine wk_bipush xd_6692718c ?_
        refine aw_iastore (i := t) xf_80f5fdb6 (show ((wn6_.1 184 41)).toInt = ((t : Int) : Int) from (hMn6_.2.2.2.1.trans (by omega))) (by omega) (by omega) xd_d0bd0601 ?_
        refine wk_aload_n xd_ba91c1f1 rfl ?_
        refine wk_dup_r xd_6833fd8c ?_
        refine wk_getI xf_10ed4a63 xd_cd35716d ?_
        refine wk_iconst xd_766c32ad ?_
        refine aw_iadd (a := ((t : Int) : Int)) (b := (1 : Int)) (e := ((t : Int) + 1 : Int)) xd_6ab77a07 (show (((cm_u1 wn6_ 199 t ((Int8.ofInt 23).toInt32)).1 184 41)).toInt = ((t : Int) : Int) from (hMn6_.2.2.2.1.trans (by omega))) (show ((Int32.ofInt 1)).toInt = 1 from by decide) (by omega) (by omega) (by omega) (fun v10_ p10_ => ?_)
        refine wk_putI xf_627c6a3d (fun ci => wk_fitI ci) xd_24c648ae ?_
        refine wk_aload_n xd_3bb4a4d6 rfl ?_
        refine wk_dup_r xd_87614b6d ?_
        refine wk_getI xf_db488d2b xd_1199b63c ?_
        refine wk_iconst xd_ed1fd879 ?_
        refine aw_iadd (a := ((d : Int) : Int)) (b := (1 : Int)) (e := ((d : Int) + 1 : Int)) xd_c9e1fcae (show (((cm_u1 (cm_u1 wn6_ 199 t ((Int8.ofInt 23).toInt32)) 184 41 v10_).1 184 42)).toInt = ((d : Int) : Int) from (hMn6_.2.2.2.2.1.trans (by omega))) (show ((Int32.ofInt 1)).toInt = 1 from by decide) (by omega) (by omega) (by omega) (fun v11_ p11_ => ?_)
        refine wk_putI xf_a9d9ad75 (fun ci => wk_fitI ci) xd_2572b97d ?_
        refine wk_iconst xd_69303084 ?_
        exact wk_ireturn xd_afed39c6 xr_d37bfb88 wk_z1 ⟨_, _, rfl, (sr_V_tr hVn6_ (show sr_V wn6_ (cm_u1 (cm_u1 (cm_u1 wn6_ 199 t ((Int8.ofInt 23).toInt32)) 184 41 v10_) 184 42 v11_) from fun k i a b c => ⟨by rw [hs_u1_ne (by omega), hs_u1_ne (by omega), hs_u1_ne (by omega)], rfl⟩)), by decide, (sr_mk (o' := (o + 1)) (t' := (t + 1)) (d' := (d + 1)) (c' := c) (f' := 0) hMn6_ ⟨fun i => by rw [hs_u1_ne (by omega), hs_u1_ne (by omega), hs_u1_ne (by omega)], fun i hi => by rw [hs_u1_ne (by omega), hs_u1_ne (by omega), hs_u1_ne (by omega)], rfl⟩ (by have e9 : ((cm_u1 (cm_u1 (cm_u1 wn6_ 199 t ((Int8.ofInt 23).toInt32)) 184 41 v10_) 184 42 v11_).1 184 40).toInt = ((o : Int) + 1 : Int) := (show (((cm_u1 (cm_u1 (cm_u1 wn6_ 199 t ((Int8.ofInt 23).toInt32)) 184 41 v10_) 184 42 v11_).1 184 40)).toInt = ((o : Int) + 1 : Int) from (hMn6_.2.2.1.trans (by omega))); omega) (by have e9 : ((cm_u1 (cm_u1 (cm_u1 wn6_ 199 t ((Int8.ofInt 23).toInt32)) 184 41 v10_) 184 42 v11_).1 184 41).toInt = ((t : Int) + 1 : Int) := (show (((cm_u1 (cm_u1 (cm_u1 wn6_ 199 t ((Int8.ofInt 23).toInt32)) 184 41 v10_) 184 42 v11_).1 184 41)).toInt = ((t : Int) + 1 : Int) from p10_); omega) (by have e9 : ((cm_u1 (cm_u1 (cm_u1 wn6_ 199 t ((Int8.ofInt 23).toInt32)) 184 41 v10_) 184 42 v11_).1 184 42).toInt = ((d : Int) + 1 : Int) := (show (((cm_u1 (cm_u1 (cm_u1 wn6_ 199 t ((Int8.ofInt 23).toInt32)) 184 41 v10_) 184 42 v11_).1 184 42)).toInt = ((d : Int) + 1 : Int) from p11_); omega) (by have e9 : ((cm_u1 (cm_u1 (cm_u1 wn6_ 199 t ((Int8.ofInt 23).toInt32)) 184 41 v10_) 184 42 v11_).1 184 39).toInt = ((c : Int) : Int) := (show (((cm_u1 (cm_u1 (cm_u1 wn6_ 199 t ((Int8.ofInt 23).toInt32)) 184 41 v10_) 184 42 v11_).1 184 39)).toInt = ((c : Int) : Int) from (hMn6_.2.2.2.2.2.1.trans (by omega))); omega) (by have e9 : ((cm_u1 (cm_u1 (cm_u1 wn6_ 199 t ((Int8.ofInt 23).toInt32)) 184 41 v10_) 184 42 v11_).1 184 43).toInt = (0 : Int) := (show (((cm_u1 (cm_u1 (cm_u1 wn6_ 199 t ((Int8.ofInt 23).toInt32)) 184 41 v10_) 184 42 v11_).1 184 43)).toInt = (0 : Int) from (hMn6_.2.2.2.2.2.2.trans (by omega))); omega)), ⟨by rw [hs_u1_ne (by omega), hs_u1_ne (by omega), ht, hs_u1_self]; decide, sr_K_lt (w := wn6_) _ (fun i hi => by rw [hs_u1_ne (by omega), hs_u1_ne (by omega), hs_u1_ne (by omega)]) hKn6_⟩⟩
      · have h53_3 := aw_le_f (a := ((d : Int) : Int)) (b := (8 : Int)) (show ((w.1 184 42)).toInt = ((d : Int) : Int) from (hM.2.2.2.2.1.trans (by omega))) (show (((Int8.ofInt 8).toInt32)).toInt = 8 from by decide) h53_3
        exfalso
        omega
  obtain ⟨oo, hC, x, w', rfl, a⟩ := h9
  exact ⟨x, w', hC, a⟩
theorem op_13 {T : Nat → Int} {n m p o t d c : Nat} {h : Nat → Int} {nm : Nat → Nat} {s : List Nat} {w : cm_W} (hR : mv_R w h nm) (hM : sr_M w T n m p o t d c 0) (hK : sr_K w s) (ht : t = s.length) (hin : c + t ≤ 2 * o) (ho : o ≤ 20) (h4a : o ≠ 20) (h4b : d ≤ 8) (hw : ps_wd (tx_tk T n m p) 13) : ∃ x w', cm_C 5 134 [.inr (.inr (some 184))] w (some (.inl x), w') ∧ sr_V w w' ∧ x.toInt = 1 ∧ sr_M w' T n m (tx_tk T n m p).2.2.1 (o + 1) (t + 1) (d + 1) c 0 ∧ sr_K w' (20 :: s) := by
  have hsz : 1 ≤ (tx_tk T n m p).1 ∧ (tx_tk T n m p).1 ≤ 3 := by have := hw.1; omega
  have h9 : ∃ oo, cm_C (4 + 1) 134 [.inr (.inr (some 184))] w oo ∧ (fun oo : cm_O => ∃ x w', oo = (some (.inl x), w') ∧ sr_V w w' ∧ x.toInt = 1 ∧ sr_M w' T n m (tx_tk T n m p).2.2.1 (o + 1) (t + 1) (d + 1) c 0 ∧ sr_K w' (20 :: s)) oo := by
    refine wk_entry (by rw [xm_48b35298]; exact Nat.le_of_ble_eq_true rfl) ?_
    rw [show cm_ent 134 [.inr (.inr (some 184))] = [some (.inr (.inr (some 184))), none, none, none, none] from by unfold cm_ent; rw [xm_48b35298]; rfl]
    refine wk_aload_n xd_a1fb5497 rfl ?_
    refine aw_ldc2 xl_89aa3103 rfl xd_5773a0fa ?_
    obtain ⟨xw13_4, hCw13_4, hxw13_4⟩ := mw_ok (w := w) (l := (Int64.ofNat 7237492)) (c := tx_rw.getD 13 0) (by decide) (tx_rw32 (by omega)) hM.1.2.1
    have ew13_4 : xw13_4.toInt = 1 := hxw13_4.elim (fun z => z.1) (fun z => absurd hw z.2)
    refine wk_call (kd := 0) (i := 210) xd_0deea7b7 rfl (wk_cal (as := [.inr (.inr (some 184)), .inr (.inl (Int64.ofNat 7237492))]) (t := []) xl_7862eed5 rfl xn_94b640da xc_24159032 rfl rfl xv_bdbd9e17 rfl) (cm_C_mono (by omega) hCw13_4) ?_
    refine wk_istore_n xd_c2c3eb22 (by rw [xm_48b35298]; rfl) rfl ?_
    refine wk_aload_n xd_a14217b1 rfl ?_
    refine wk_bipush xd_ece49f92 ?_
    obtain ⟨xg40_11, hCg40_11, hxg40_11⟩ := mi_ok (w := w) (k := ((Int8.ofInt 40).toInt32)) (c := 40) (by decide) hM.1.2.1
    have eg40_11 : xg40_11.toInt = 0 := hxg40_11.elim (fun z => absurd z.2 (fun z => by have := z.1; have := hw.1; omega)) (fun z => z.1)
    refine wk_call (kd := 0) (i := 173) xd_4839f43b rfl (wk_cal (as := [.inr (.inr (some 184)), .inl ((Int8.ofInt 40).toInt32)]) (t := []) xl_eb23fbe0 rfl xn_225279b5 xc_ca564353 rfl rfl xv_bcdeec94 rfl) (cm_C_mono (by omega) hCg40_11) ?_
    refine wk_istore_n xd_00371d67 (by rw [xm_48b35298]; rfl) rfl ?_
    refine wk_aload_n xd_7d8d6bbf rfl ?_
    obtain ⟨xL, hCL, hxL⟩ := sr_leaf (w := w) hM.1.2.1
    have eL : xL.toInt = ((-1) : Int) := by
      rcases hxL with ⟨k', a1, a2, a3, a4⟩ | ⟨a1, a2⟩
      · exact absurd a3 (ps_wd_ne (i := k') hw (by omega) (by omega) (by omega))
      · exact a1
    refine wk_call (kd := 0) (i := 420) xd_25dbaac8 rfl (wk_cal (as := [.inr (.inr (some 184))]) (t := []) xl_a8e7eb95 rfl xn_c55f9e10 xc_77da5405 rfl rfl xv_50854d28 rfl) (cm_C_mono (by omega) hCL) ?_
    refine wk_istore_n xd_0779f311 (by rw [xm_48b35298]; rfl) rfl ?_
    refine wk_iload_n xd_d9df730d rfl ?_
    refine wk_if xd_05282231 (t := 38) rfl (fun _ => ?_) (fun h => absurd (aw_ne_f ew13_4 hb_z h) (by omega))
    refine wk_aload_n xd_3f20afd1 rfl ?_
    refine wk_getI xf_4633a7bb xd_810317bd ?_
    refine wk_bipush xd_e39b8983 ?_
    refine wk_icmp xd_41784522 (t := 56) rfl (fun h44_1 => ?_) (fun h44_1 => ?_)
    · have h44_1 := aw_eq_t (a := ((o : Int) : Int)) (b := (20 : Int)) (show ((w.1 184 40)).toInt = ((o : Int) : Int) from (hM.2.2.1.trans (by omega))) (show (((Int8.ofInt 20).toInt32)).toInt = 20 from by decide) h44_1
      exfalso
      omega
    · have h44_1 := aw_eq_f (a := ((o : Int) : Int)) (b := (20 : Int)) (show ((w.1 184 40)).toInt = ((o : Int) : Int) from (hM.2.2.1.trans (by omega))) (show (((Int8.ofInt 20).toInt32)).toInt = 20 from by decide) h44_1
      refine wk_aload_n xd_7838432e rfl ?_
      refine wk_getI xf_db488d2b xd_c7df23c2 ?_
      refine wk_bipush xd_fe1716ce ?_
      refine wk_icmp xd_39ca0028 (t := 62) rfl (fun h53_2 => ?_) (fun h53_2 => ?_)
      · have h53_2 := aw_le_t (a := ((d : Int) : Int)) (b := (8 : Int)) (show ((w.1 184 42)).toInt = ((d : Int) : Int) from (hM.2.2.2.2.1.trans (by omega))) (show (((Int8.ofInt 8).toInt32)).toInt = 8 from by decide) h53_2
        refine wk_aload_n xd_3a2cc466 rfl ?_
        refine wk_dup_r xd_74bb42e5 ?_
        refine wk_getI xf_4633a7bb xd_166e7a4c ?_
        refine wk_iconst xd_174d4838 ?_
        refine aw_iadd (a := ((o : Int) : Int)) (b := (1 : Int)) (e := ((o : Int) + 1 : Int)) xd_900ab995 (show ((w.1 184 40)).toInt = ((o : Int) : Int) from (hM.2.2.1.trans (by omega))) (show ((Int32.ofInt 1)).toInt = 1 from by decide) (by omega) (by omega) (by omega) (fun v4_ p4_ => ?_)
        refine wk_putI xf_34a287e5 (fun ci => wk_fitI ci) xd_d1723e1d ?_
        refine wk_aload_n xd_bb09a141 rfl ?_
        have hMn5_0 : sr_M (cm_u1 w 184 40 v4_) T n m p ((o + 1)) (t) (d) (c) (0) := (sr_mk (o' := (o + 1)) (t' := t) (d' := d) (c' := c) (f' := 0) hM ⟨fun i => by rw [hs_u1_ne (by omega)], fun i hi => by rw [hs_u1_ne (by omega)], rfl⟩ (by have e9 : ((cm_u1 w 184 40 v4_).1 184 40).toInt = ((o : Int) + 1 : Int) := (show (((cm_u1 w 184 40 v4_).1 184 40)).toInt = ((o : Int) + 1 : Int) from p4_); omega) (by have e9 : ((cm_u1 w 184 40 v4_).1 184 41).toInt = ((t : Int) : Int) := (show (((cm_u1 w 184 40 v4_).1 184 41)).toInt = ((t : Int) : Int) from (hM.2.2.2.1.trans (by omega))); omega) (by have e9 : ((cm_u1 w 184 40 v4_).1 184 42).toInt = ((d : Int) : Int) := (show (((cm_u1 w 184 40 v4_).1 184 42)).toInt = ((d : Int) : Int) from (hM.2.2.2.2.1.trans (by omega))); omega) (by have e9 : ((cm_u1 w 184 40 v4_).1 184 39).toInt = ((c : Int) : Int) := (show (((cm_u1 w 184 40 v4_).1 184 39)).toInt = ((c : Int) : Int) from (hM.2.2.2.2.2.1.trans (by omega))); omega) (by have e9 : ((cm_u1 w 184 40 v4_).1 184 43).toInt = (0 : Int) := (show (((cm_u1 w 184 40 v4_).1 184 43)).toInt = (0 : Int) from (hM.2.2.2.2.2.2.trans (by omega))); omega))
        have hVn5_0 : sr_V w (cm_u1 w 184 40 v4_) := (sr_V_tr (sr_V_rf w) (show sr_V w (cm_u1 w 184 40 v4_) from fun k i a b c => ⟨by rw [hs_u1_ne (by omega)], rfl⟩))
        obtain ⟨wn5_, hCn5_, hSn5_, hMn5_⟩ := sr_next hMn5_0 hsz
        have hVn5_ := sr_V_tr hVn5_0 (sr_V_E (rm_E_S hSn5_))
        have hKn5_ : sr_K wn5_ s := sr_K_lt (w := w) _ (fun i _ => by rw [(hSn5_ 199 i (by omega)).1, hs_u1_ne (by omega)]) hK
        refine wk_call (kd := 0) (i := 179) xd_56092a07 rfl (wk_cal (as := [.inr (.inr (some 184))]) (t := []) xl_b037c8bc rfl xn_00af7311 xc_b2cf5bb1 rfl rfl xv_e7aa8f3d rfl) (cm_C_mono (by omega) hCn5_) ?_
        refine wk_iload_n xd_dc36fa0f rfl ?_
        refine wk_if xd_8ac39bcf (t := 84) rfl (fun _ => ?_) (fun h => absurd (aw_ne_f ew13_4 hb_z h) (by omega))
        refine wk_aload_n xd_b5d6d8f2 rfl ?_
        refine wk_getR xf_1029fb0d xd_524c8c8d ?_
        refine wk_aload_n xd_b5333a47 rfl ?_
        refine wk_getI xf_10ed4a63 xd_3121e48a ?_
        refine wk_iload_n xd_be5a3572 rfl ?_
        refine wk_if xd_9227b506 (t := 101) rfl (fun h => absurd (aw_eq_t ew13_4 hb_z h) (by omega)) (fun _ => ?_)
        refine wk_bipush xd_d9e9efd6 ?_
        refine wk_goto xd_df496744 (t := 103) rfl ?_
        refine aw_iastore (i := t) xf_80f5fdb6 (show ((wn5_.1 184 41)).toInt = ((t : Int) : Int) from (hMn5_.2.2.2.1.trans (by omega))) (by omega) (by omega) xd_d0bd0601 ?_
        refine wk_aload_n xd_ba91c1f1 rfl ?_
        refine wk_dup_r xd_6833fd8c ?_
        refine wk_getI xf_10ed4a63 xd_cd35716d ?_
        refine wk_iconst xd_766c32ad ?_
        refine aw_iadd (a := ((t : Int) : Int)) (b := (1 : Int)) (e := ((t : Int) + 1 : Int)) xd_6ab77a07 (show (((cm_u1 wn5_ 199 t ((Int8.ofInt 20).toInt32)).1 184 41)).toInt = ((t : Int) : Int) from (hMn5_.2.2.2.1.trans (by omega))) (show ((Int32.ofInt 1)).toInt = 1 from by decide) (by omega) (by omega) (by omega) (fun v8_ p8_ => ?_)
        refine wk_putI xf_627c6a3d (fun ci => wk_fitI ci) xd_24c648ae ?_
        refine wk_aload_n xd_3bb4a4d6 rfl ?_
        refine wk_dup_r xd_87614b6d ?_
        refine wk_getI xf_db488d2b xd_1199b63c ?_
        refine wk_iconst xd_ed1fd879 ?_
        refine aw_iadd (a := ((d : Int) : Int)) (b := (1 : Int)) (e := ((d : Int) + 1 : Int)) xd_c9e1fcae (show (((cm_u1 (cm_u1 wn5_ 199 t ((Int8.ofInt 20).toInt32)) 184 41 v8_).1 184 42)).toInt = ((d : Int) : Int) from (hMn5_.2.2.2.2.1.trans (by omega))) (show ((Int32.ofInt 1)).toInt = 1 from by decide) (by omega) (by omega) (by omega) (fun v9_ p9_ => ?_)
        refine wk_putI xf_a9d9ad75 (fun ci => wk_fitI ci) xd_2572b97d ?_
        refine wk_iconst xd_69303084 ?_
        exact wk_ireturn xd_afed39c6 xr_d37bfb88 wk_z1 ⟨_, _, rfl, (sr_V_tr hVn5_ (show sr_V wn5_ (cm_u1 (cm_u1 (cm_u1 wn5_ 199 t ((Int8.ofInt 20).toInt32)) 184 41 v8_) 184 42 v9_) from fun k i a b c => ⟨by rw [hs_u1_ne (by omega), hs_u1_ne (by omega), hs_u1_ne (by omega)], rfl⟩)), by decide, (sr_mk (o' := (o + 1)) (t' := (t + 1)) (d' := (d + 1)) (c' := c) (f' := 0) hMn5_ ⟨fun i => by rw [hs_u1_ne (by omega), hs_u1_ne (by omega), hs_u1_ne (by omega)], fun i hi => by rw [hs_u1_ne (by omega), hs_u1_ne (by omega), hs_u1_ne (by omega)], rfl⟩ (by have e9 : ((cm_u1 (cm_u1 (cm_u1 wn5_ 199 t ((Int8.ofInt 20).toInt32)) 184 41 v8_) 184 42 v9_).1 184 40).toInt = ((o : Int) + 1 : Int) := (show (((cm_u1 (cm_u1 (cm_u1 wn5_ 199 t ((Int8.ofInt 20).toInt32)) 184 41 v8_) 184 42 v9_).1 184 40)).toInt = ((o : Int) + 1 : Int) from (hMn5_.2.2.1.trans (by omega))); omega) (by have e9 : ((cm_u1 (cm_u1 (cm_u1 wn5_ 199 t ((Int8.ofInt 20).toInt32)) 184 41 v8_) 184 42 v9_).1 184 41).toInt = ((t : Int) + 1 : Int) := (show (((cm_u1 (cm_u1 (cm_u1 wn5_ 199 t ((Int8.ofInt 20).toInt32)) 184 41 v8_) 184 42 v9_).1 184 41)).toInt = ((t : Int) + 1 : Int) from p8_); omega) (by have e9 : ((cm_u1 (cm_u1 (cm_u1 wn5_ 199 t ((Int8.ofInt 20).toInt32)) 184 41 v8_) 184 42 v9_).1 184 42).toInt = ((d : Int) + 1 : Int) := (show (((cm_u1 (cm_u1 (cm_u1 wn5_ 199 t ((Int8.ofInt 20).toInt32)) 184 41 v8_) 184 42 v9_).1 184 42)).toInt = ((d : Int) + 1 : Int) from p9_); omega) (by have e9 : ((cm_u1 (cm_u1 (cm_u1 wn5_ 199 t ((Int8.ofInt 20).toInt32)) 184 41 v8_) 184 42 v9_).1 184 39).toInt = ((c : Int) : Int) := (show (((cm_u1 (cm_u1 (cm_u1 wn5_ 199 t ((Int8.ofInt 20).toInt32)) 184 41 v8_) 184 42 v9_).1 184 39)).toInt = ((c : Int) : Int) from (hMn5_.2.2.2.2.2.1.trans (by omega))); omega) (by have e9 : ((cm_u1 (cm_u1 (cm_u1 wn5_ 199 t ((Int8.ofInt 20).toInt32)) 184 41 v8_) 184 42 v9_).1 184 43).toInt = (0 : Int) := (show (((cm_u1 (cm_u1 (cm_u1 wn5_ 199 t ((Int8.ofInt 20).toInt32)) 184 41 v8_) 184 42 v9_).1 184 43)).toInt = (0 : Int) from (hMn5_.2.2.2.2.2.2.trans (by omega))); omega)), ⟨by rw [hs_u1_ne (by omega), hs_u1_ne (by omega), ht, hs_u1_self]; decide, sr_K_lt (w := wn5_) _ (fun i hi => by rw [hs_u1_ne (by omega), hs_u1_ne (by omega), hs_u1_ne (by omega)]) hKn5_⟩⟩
      · have h53_2 := aw_le_f (a := ((d : Int) : Int)) (b := (8 : Int)) (show ((w.1 184 42)).toInt = ((d : Int) : Int) from (hM.2.2.2.2.1.trans (by omega))) (show (((Int8.ofInt 8).toInt32)).toInt = 8 from by decide) h53_2
        exfalso
        omega
  obtain ⟨oo, hC, x, w', rfl, a⟩ := h9
  exact ⟨x, w', hC, a⟩
theorem op_il {T : Nat → Int} {n m p o t d c : Nat} {h : Nat → Int} {nm : Nat → Nat} {s : List Nat} {w : cm_W} (hR : mv_R w h nm) (hM : sr_M w T n m p o t d c 0) (hK : sr_K w s) (ht : t = s.length) (hin : c + t ≤ 2 * o) (ho : o ≤ 20) (h4a : o ≠ 20) (h4b : d ≤ 8) {k : Nat} (hk1 : 14 ≤ k) (hk2 : k ≤ 15) (hw : ps_wd (tx_tk T n m p) k) : ∃ x w', cm_C 5 134 [.inr (.inr (some 184))] w (some (.inl x), w') ∧ sr_V w w' ∧ x.toInt = 1 ∧ sr_M w' T n m (tx_tk T n m p).2.2.1 (o + 1) t d (c + 1) 1 ∧ sr_K w' s := by
  have hsz : 1 ≤ (tx_tk T n m p).1 ∧ (tx_tk T n m p).1 ≤ 3 := by have := hw.1; omega
  have h9 : ∃ oo, cm_C (4 + 1) 134 [.inr (.inr (some 184))] w oo ∧ (fun oo : cm_O => ∃ x w', oo = (some (.inl x), w') ∧ sr_V w w' ∧ x.toInt = 1 ∧ sr_M w' T n m (tx_tk T n m p).2.2.1 (o + 1) t d (c + 1) 1 ∧ sr_K w' s) oo := by
    refine wk_entry (by rw [xm_48b35298]; exact Nat.le_of_ble_eq_true rfl) ?_
    rw [show cm_ent 134 [.inr (.inr (some 184))] = [some (.inr (.inr (some 184))), none, none, none, none] from by unfold cm_ent; rw [xm_48b35298]; rfl]
    refine wk_aload_n xd_a1fb5497 rfl ?_
    refine aw_ldc2 xl_89aa3103 rfl xd_5773a0fa ?_
    obtain ⟨xw13_4, hCw13_4, hxw13_4⟩ := mw_ok (w := w) (l := (Int64.ofNat 7237492)) (c := tx_rw.getD 13 0) (by decide) (tx_rw32 (by omega)) hM.1.2.1
    have ew13_4 : xw13_4.toInt = 0 := hxw13_4.elim (fun z => absurd z.2 (ps_wd_ne (i := 13) hw (by omega) (by omega) (by omega))) (fun z => z.1)
    refine wk_call (kd := 0) (i := 210) xd_0deea7b7 rfl (wk_cal (as := [.inr (.inr (some 184)), .inr (.inl (Int64.ofNat 7237492))]) (t := []) xl_7862eed5 rfl xn_94b640da xc_24159032 rfl rfl xv_bdbd9e17 rfl) (cm_C_mono (by omega) hCw13_4) ?_
    refine wk_istore_n xd_c2c3eb22 (by rw [xm_48b35298]; rfl) rfl ?_
    refine wk_aload_n xd_a14217b1 rfl ?_
    refine wk_bipush xd_ece49f92 ?_
    obtain ⟨xg40_11, hCg40_11, hxg40_11⟩ := mi_ok (w := w) (k := ((Int8.ofInt 40).toInt32)) (c := 40) (by decide) hM.1.2.1
    have eg40_11 : xg40_11.toInt = 0 := hxg40_11.elim (fun z => absurd z.2 (fun z => by have := z.1; have := hw.1; omega)) (fun z => z.1)
    refine wk_call (kd := 0) (i := 173) xd_4839f43b rfl (wk_cal (as := [.inr (.inr (some 184)), .inl ((Int8.ofInt 40).toInt32)]) (t := []) xl_eb23fbe0 rfl xn_225279b5 xc_ca564353 rfl rfl xv_bcdeec94 rfl) (cm_C_mono (by omega) hCg40_11) ?_
    refine wk_istore_n xd_00371d67 (by rw [xm_48b35298]; rfl) rfl ?_
    refine wk_aload_n xd_7d8d6bbf rfl ?_
    obtain ⟨xL, hCL, hxL⟩ := sr_leaf (w := w) hM.1.2.1
    have eL : xL.toInt = ((k : Int) + (-14) : Int) := by
      rcases hxL with ⟨k', a1, a2, a3, a4⟩ | ⟨a1, a2⟩
      · by_cases e : k' = k
        · omega
        · exact absurd hw (ps_wd_ne a3 (by omega) (by omega) (fun z => e z.symm))
      · exact absurd hw (a2 k (by omega) (by omega))
    refine wk_call (kd := 0) (i := 420) xd_25dbaac8 rfl (wk_cal (as := [.inr (.inr (some 184))]) (t := []) xl_a8e7eb95 rfl xn_c55f9e10 xc_77da5405 rfl rfl xv_50854d28 rfl) (cm_C_mono (by omega) hCL) ?_
    refine wk_istore_n xd_0779f311 (by rw [xm_48b35298]; rfl) rfl ?_
    refine wk_iload_n xd_d9df730d rfl ?_
    refine wk_if xd_05282231 (t := 38) rfl (fun h => absurd (aw_ne_t ew13_4 hb_z h) (by omega)) (fun _ => ?_)
    refine wk_iload_n xd_9e23a84e rfl ?_
    refine wk_if xd_91e9efb4 (t := 38) rfl (fun h => absurd (aw_ne_t eg40_11 hb_z h) (by omega)) (fun _ => ?_)
    refine wk_iload_n xd_a3a6634b rfl ?_
    refine wk_if xd_4f86be8c (t := 38) rfl (fun h29_2 => ?_) (fun h29_2 => ?_)
    · have h29_2 := aw_ge_t (a := ((k : Int) + (-14) : Int)) (b := (0 : Int)) eL hb_z h29_2
      refine wk_aload_n xd_3f20afd1 rfl ?_
      refine wk_getI xf_4633a7bb xd_810317bd ?_
      refine wk_bipush xd_e39b8983 ?_
      refine wk_icmp xd_41784522 (t := 56) rfl (fun h44_3 => ?_) (fun h44_3 => ?_)
      · have h44_3 := aw_eq_t (a := ((o : Int) : Int)) (b := (20 : Int)) (show ((w.1 184 40)).toInt = ((o : Int) : Int) from (hM.2.2.1.trans (by omega))) (show (((Int8.ofInt 20).toInt32)).toInt = 20 from by decide) h44_3
        exfalso
        omega
      · have h44_3 := aw_eq_f (a := ((o : Int) : Int)) (b := (20 : Int)) (show ((w.1 184 40)).toInt = ((o : Int) : Int) from (hM.2.2.1.trans (by omega))) (show (((Int8.ofInt 20).toInt32)).toInt = 20 from by decide) h44_3
        refine wk_aload_n xd_7838432e rfl ?_
        refine wk_getI xf_db488d2b xd_c7df23c2 ?_
        refine wk_bipush xd_fe1716ce ?_
        refine wk_icmp xd_39ca0028 (t := 62) rfl (fun h53_4 => ?_) (fun h53_4 => ?_)
        · have h53_4 := aw_le_t (a := ((d : Int) : Int)) (b := (8 : Int)) (show ((w.1 184 42)).toInt = ((d : Int) : Int) from (hM.2.2.2.2.1.trans (by omega))) (show (((Int8.ofInt 8).toInt32)).toInt = 8 from by decide) h53_4
          refine wk_aload_n xd_3a2cc466 rfl ?_
          refine wk_dup_r xd_74bb42e5 ?_
          refine wk_getI xf_4633a7bb xd_166e7a4c ?_
          refine wk_iconst xd_174d4838 ?_
          refine aw_iadd (a := ((o : Int) : Int)) (b := (1 : Int)) (e := ((o : Int) + 1 : Int)) xd_900ab995 (show ((w.1 184 40)).toInt = ((o : Int) : Int) from (hM.2.2.1.trans (by omega))) (show ((Int32.ofInt 1)).toInt = 1 from by decide) (by omega) (by omega) (by omega) (fun v6_ p6_ => ?_)
          refine wk_putI xf_34a287e5 (fun ci => wk_fitI ci) xd_d1723e1d ?_
          refine wk_aload_n xd_bb09a141 rfl ?_
          have hMn7_0 : sr_M (cm_u1 w 184 40 v6_) T n m p ((o + 1)) (t) (d) (c) (0) := (sr_mk (o' := (o + 1)) (t' := t) (d' := d) (c' := c) (f' := 0) hM ⟨fun i => by rw [hs_u1_ne (by omega)], fun i hi => by rw [hs_u1_ne (by omega)], rfl⟩ (by have e9 : ((cm_u1 w 184 40 v6_).1 184 40).toInt = ((o : Int) + 1 : Int) := (show (((cm_u1 w 184 40 v6_).1 184 40)).toInt = ((o : Int) + 1 : Int) from p6_); omega) (by have e9 : ((cm_u1 w 184 40 v6_).1 184 41).toInt = ((t : Int) : Int) := (show (((cm_u1 w 184 40 v6_).1 184 41)).toInt = ((t : Int) : Int) from (hM.2.2.2.1.trans (by omega))); omega) (by have e9 : ((cm_u1 w 184 40 v6_).1 184 42).toInt = ((d : Int) : Int) := (show (((cm_u1 w 184 40 v6_).1 184 42)).toInt = ((d : Int) : Int) from (hM.2.2.2.2.1.trans (by omega))); omega) (by have e9 : ((cm_u1 w 184 40 v6_).1 184 39).toInt = ((c : Int) : Int) := (show (((cm_u1 w 184 40 v6_).1 184 39)).toInt = ((c : Int) : Int) from (hM.2.2.2.2.2.1.trans (by omega))); omega) (by have e9 : ((cm_u1 w 184 40 v6_).1 184 43).toInt = (0 : Int) := (show (((cm_u1 w 184 40 v6_).1 184 43)).toInt = (0 : Int) from (hM.2.2.2.2.2.2.trans (by omega))); omega))
          have hVn7_0 : sr_V w (cm_u1 w 184 40 v6_) := (sr_V_tr (sr_V_rf w) (show sr_V w (cm_u1 w 184 40 v6_) from fun k i a b c => ⟨by rw [hs_u1_ne (by omega)], rfl⟩))
          obtain ⟨wn7_, hCn7_, hSn7_, hMn7_⟩ := sr_next hMn7_0 hsz
          have hVn7_ := sr_V_tr hVn7_0 (sr_V_E (rm_E_S hSn7_))
          have hKn7_ : sr_K wn7_ s := sr_K_lt (w := w) _ (fun i _ => by rw [(hSn7_ 199 i (by omega)).1, hs_u1_ne (by omega)]) hK
          refine wk_call (kd := 0) (i := 179) xd_56092a07 rfl (wk_cal (as := [.inr (.inr (some 184))]) (t := []) xl_b037c8bc rfl xn_00af7311 xc_b2cf5bb1 rfl rfl xv_e7aa8f3d rfl) (cm_C_mono (by omega) hCn7_) ?_
          refine wk_iload_n xd_dc36fa0f rfl ?_
          refine wk_if xd_8ac39bcf (t := 84) rfl (fun h => absurd (aw_ne_t ew13_4 hb_z h) (by omega)) (fun _ => ?_)
          refine wk_iload_n xd_9549f96c rfl ?_
          refine wk_if xd_5b45533c (t := 126) rfl (fun _ => ?_) (fun h => absurd (aw_eq_f eg40_11 hb_z h) (by omega))
          refine wk_aload_n xd_8e3cde17 rfl ?_
          refine wk_iconst xd_50489dc4 ?_
          refine wk_putI xf_e791d0f4 (fun _ => aw_fb (.inr (by decide))) xd_2cb26948 ?_
          refine wk_iload_n xd_64038a23 rfl ?_
          refine wk_iconst xd_c712fa00 ?_
          refine wk_icmp xd_57308876 (t := 145) rfl (fun h133_9 => ?_) (fun h133_9 => ?_)
          · have h133_9 := aw_ge_t (a := ((k : Int) + (-14) : Int)) (b := (2 : Int)) eL (show ((Int32.ofInt 2)).toInt = 2 from by decide) h133_9
            exfalso
            omega
          · have h133_9 := aw_ge_f (a := ((k : Int) + (-14) : Int)) (b := (2 : Int)) eL (show ((Int32.ofInt 2)).toInt = 2 from by decide) h133_9
            refine wk_aload_n xd_0f19bb30 rfl ?_
            refine wk_iload_n xd_89c9f859 rfl ?_
            refine wk_iconst xd_2ac146e0 ?_
            refine wk_iconst xd_3de92220 ?_
            obtain ⟨wc, hCc, fc1, fc2, fc3⟩ := sr_code (w := (cm_u1 wn7_ 184 43 (Int32.ofInt 1))) (va := xL) (vb := (Int32.ofInt 0)) (vd := (Int32.ofInt 0)) (c := c) ((show (((cm_u1 wn7_ 184 43 (Int32.ofInt 1)).1 184 39)).toInt = ((c : Int) : Int) from (hMn7_.2.2.2.2.2.1.trans (by omega)))) (by omega)
            have hMp : sr_M (cm_u1 wn7_ 184 43 (Int32.ofInt 1)) T n m (tx_tk T n m p).2.2.1 ((o + 1)) (t) (d) (c) (1) := (sr_mk (o' := (o + 1)) (t' := t) (d' := d) (c' := c) (f' := 1) hMn7_ ⟨fun i => by rw [hs_u1_ne (by omega)], fun i hi => by rw [hs_u1_ne (by omega)], rfl⟩ (by have e9 : ((cm_u1 wn7_ 184 43 (Int32.ofInt 1)).1 184 40).toInt = ((o : Int) + 1 : Int) := (show (((cm_u1 wn7_ 184 43 (Int32.ofInt 1)).1 184 40)).toInt = ((o : Int) + 1 : Int) from (hMn7_.2.2.1.trans (by omega))); omega) (by have e9 : ((cm_u1 wn7_ 184 43 (Int32.ofInt 1)).1 184 41).toInt = ((t : Int) : Int) := (show (((cm_u1 wn7_ 184 43 (Int32.ofInt 1)).1 184 41)).toInt = ((t : Int) : Int) from (hMn7_.2.2.2.1.trans (by omega))); omega) (by have e9 : ((cm_u1 wn7_ 184 43 (Int32.ofInt 1)).1 184 42).toInt = ((d : Int) : Int) := (show (((cm_u1 wn7_ 184 43 (Int32.ofInt 1)).1 184 42)).toInt = ((d : Int) : Int) from (hMn7_.2.2.2.2.1.trans (by omega))); omega) (by have e9 : ((cm_u1 wn7_ 184 43 (Int32.ofInt 1)).1 184 39).toInt = ((c : Int) : Int) := (show (((cm_u1 wn7_ 184 43 (Int32.ofInt 1)).1 184 39)).toInt = ((c : Int) : Int) from (hMn7_.2.2.2.2.2.1.trans (by omega))); omega) (by have e9 : ((cm_u1 wn7_ 184 43 (Int32.ofInt 1)).1 184 43).toInt = (1 : Int) := (show (((cm_u1 wn7_ 184 43 (Int32.ofInt 1)).1 184 43)).toInt = (1 : Int) from (show ((Int32.ofInt 1)).toInt = 1 from by decide)); omega))
            have hMc : sr_M wc T n m (tx_tk T n m p).2.2.1 ((o + 1)) (t) (d) (c + 1) (1) := sr_mk hMp ⟨fun i => fc1 185 i (by omega) (by omega), fun i hi => fc1 184 i (by omega) (by omega), fc2⟩ (by rw [fc1 184 40 (by omega) (by omega)]; exact hMp.2.2.1) (by rw [fc1 184 41 (by omega) (by omega)]; exact hMp.2.2.2.1) (by rw [fc1 184 42 (by omega) (by omega)]; exact hMp.2.2.2.2.1) fc3 (by rw [fc1 184 43 (by omega) (by omega)]; exact hMp.2.2.2.2.2.2)
            have hVc : sr_V w wc := sr_V_tr (sr_V_tr hVn7_ (show sr_V wn7_ (cm_u1 wn7_ 184 43 (Int32.ofInt 1)) from fun k i a b c => ⟨by rw [hs_u1_ne (by omega)], rfl⟩)) (fun k i a b c => ⟨fc1 k i (by omega) b, by rw [fc2]⟩)
            have hKc : sr_K wc s := sr_K_lt (w := wn7_) _ (fun i _ => by rw [fc1 199 i (by omega) (by omega), hs_u1_ne (by omega)]) hKn7_
            refine wk_call (kd := 0) (i := 413) xd_4d3f887f rfl (wk_cal (as := [.inr (.inr (some 184)), .inl xL, .inl (Int32.ofInt 0), .inl (Int32.ofInt 0)]) (t := []) xl_c3f3b8fa rfl xn_2844c07f xc_82edc90f rfl rfl xv_6dbeb463 rfl) (cm_C_mono (by omega) hCc) ?_
            refine wk_iconst xd_e1237cbe ?_
            exact wk_ireturn xd_42c6e0d8 xr_d37bfb88 wk_z1 ⟨_, _, rfl, hVc, by decide, hMc, hKc⟩
        · have h53_4 := aw_le_f (a := ((d : Int) : Int)) (b := (8 : Int)) (show ((w.1 184 42)).toInt = ((d : Int) : Int) from (hM.2.2.2.2.1.trans (by omega))) (show (((Int8.ofInt 8).toInt32)).toInt = 8 from by decide) h53_4
          exfalso
          omega
    · have h29_2 := aw_ge_f (a := ((k : Int) + (-14) : Int)) (b := (0 : Int)) eL hb_z h29_2
      exfalso
      omega
  obtain ⟨oo, hC, x, w', rfl, a⟩ := h9
  exact ⟨x, w', hC, a⟩
theorem op_16 {T : Nat → Int} {n m p o t d c : Nat} {h : Nat → Int} {nm : Nat → Nat} {s : List Nat} {w : cm_W} (hR : mv_R w h nm) (hM : sr_M w T n m p o t d c 0) (hK : sr_K w s) (ht : t = s.length) (hin : c + t ≤ 2 * o) (ho : o ≤ 20) (h4a : o ≠ 20) (h4b : d ≤ 8) (hw : ps_wd (tx_tk T n m p) 16) : ∃ x w', cm_C 5 134 [.inr (.inr (some 184))] w (some (.inl x), w') ∧ sr_V w w' ∧ ((∃ p', sp_nam T n m nm 0 (h 0).toNat (o + 1) (tx_tk T n m p).2.2.1 = .inr (o + 1, p') ∧ x.toInt = 1 ∧ sr_M w' T n m p' (o + 1) t d (c + 1) 1 ∧ sr_K w' s) ∨ (∃ k9 q9, sp_nam T n m nm 0 (h 0).toNat (o + 1) (tx_tk T n m p).2.2.1 = .inl (k9, q9) ∧ x.toInt = 0 ∧ cr_B w' k9 q9)) := by
  have hsz : 1 ≤ (tx_tk T n m p).1 ∧ (tx_tk T n m p).1 ≤ 3 := by have := hw.1; omega
  have h9 : ∃ oo, cm_C (4 + 1) 134 [.inr (.inr (some 184))] w oo ∧ (fun oo : cm_O => ∃ x w', oo = (some (.inl x), w') ∧ sr_V w w' ∧ ((∃ p', sp_nam T n m nm 0 (h 0).toNat (o + 1) (tx_tk T n m p).2.2.1 = .inr (o + 1, p') ∧ x.toInt = 1 ∧ sr_M w' T n m p' (o + 1) t d (c + 1) 1 ∧ sr_K w' s) ∨ (∃ k9 q9, sp_nam T n m nm 0 (h 0).toNat (o + 1) (tx_tk T n m p).2.2.1 = .inl (k9, q9) ∧ x.toInt = 0 ∧ cr_B w' k9 q9))) oo := by
    refine wk_entry (by rw [xm_48b35298]; exact Nat.le_of_ble_eq_true rfl) ?_
    rw [show cm_ent 134 [.inr (.inr (some 184))] = [some (.inr (.inr (some 184))), none, none, none, none] from by unfold cm_ent; rw [xm_48b35298]; rfl]
    refine wk_aload_n xd_a1fb5497 rfl ?_
    refine aw_ldc2 xl_89aa3103 rfl xd_5773a0fa ?_
    obtain ⟨xw13_4, hCw13_4, hxw13_4⟩ := mw_ok (w := w) (l := (Int64.ofNat 7237492)) (c := tx_rw.getD 13 0) (by decide) (tx_rw32 (by omega)) hM.1.2.1
    have ew13_4 : xw13_4.toInt = 0 := hxw13_4.elim (fun z => absurd z.2 (ps_wd_ne (i := 13) hw (by omega) (by omega) (by omega))) (fun z => z.1)
    refine wk_call (kd := 0) (i := 210) xd_0deea7b7 rfl (wk_cal (as := [.inr (.inr (some 184)), .inr (.inl (Int64.ofNat 7237492))]) (t := []) xl_7862eed5 rfl xn_94b640da xc_24159032 rfl rfl xv_bdbd9e17 rfl) (cm_C_mono (by omega) hCw13_4) ?_
    refine wk_istore_n xd_c2c3eb22 (by rw [xm_48b35298]; rfl) rfl ?_
    refine wk_aload_n xd_a14217b1 rfl ?_
    refine wk_bipush xd_ece49f92 ?_
    obtain ⟨xg40_11, hCg40_11, hxg40_11⟩ := mi_ok (w := w) (k := ((Int8.ofInt 40).toInt32)) (c := 40) (by decide) hM.1.2.1
    have eg40_11 : xg40_11.toInt = 0 := hxg40_11.elim (fun z => absurd z.2 (fun z => by have := z.1; have := hw.1; omega)) (fun z => z.1)
    refine wk_call (kd := 0) (i := 173) xd_4839f43b rfl (wk_cal (as := [.inr (.inr (some 184)), .inl ((Int8.ofInt 40).toInt32)]) (t := []) xl_eb23fbe0 rfl xn_225279b5 xc_ca564353 rfl rfl xv_bcdeec94 rfl) (cm_C_mono (by omega) hCg40_11) ?_
    refine wk_istore_n xd_00371d67 (by rw [xm_48b35298]; rfl) rfl ?_
    refine wk_aload_n xd_7d8d6bbf rfl ?_
    obtain ⟨xL, hCL, hxL⟩ := sr_leaf (w := w) hM.1.2.1
    have eL : xL.toInt = (2 : Int) := by
      rcases hxL with ⟨k', a1, a2, a3, a4⟩ | ⟨a1, a2⟩
      · by_cases e : k' = 16
        · omega
        · exact absurd hw (ps_wd_ne a3 (by omega) (by omega) (fun z => e z.symm))
      · exact absurd hw (a2 16 (by omega) (by omega))
    refine wk_call (kd := 0) (i := 420) xd_25dbaac8 rfl (wk_cal (as := [.inr (.inr (some 184))]) (t := []) xl_a8e7eb95 rfl xn_c55f9e10 xc_77da5405 rfl rfl xv_50854d28 rfl) (cm_C_mono (by omega) hCL) ?_
    refine wk_istore_n xd_0779f311 (by rw [xm_48b35298]; rfl) rfl ?_
    refine wk_iload_n xd_d9df730d rfl ?_
    refine wk_if xd_05282231 (t := 38) rfl (fun h => absurd (aw_ne_t ew13_4 hb_z h) (by omega)) (fun _ => ?_)
    refine wk_iload_n xd_9e23a84e rfl ?_
    refine wk_if xd_91e9efb4 (t := 38) rfl (fun h => absurd (aw_ne_t eg40_11 hb_z h) (by omega)) (fun _ => ?_)
    refine wk_iload_n xd_a3a6634b rfl ?_
    refine wk_if xd_4f86be8c (t := 38) rfl (fun _ => ?_) (fun h => absurd (aw_ge_f eL hb_z h) (by omega))
    refine wk_aload_n xd_3f20afd1 rfl ?_
    refine wk_getI xf_4633a7bb xd_810317bd ?_
    refine wk_bipush xd_e39b8983 ?_
    refine wk_icmp xd_41784522 (t := 56) rfl (fun h44_3 => ?_) (fun h44_3 => ?_)
    · have h44_3 := aw_eq_t (a := ((o : Int) : Int)) (b := (20 : Int)) (show ((w.1 184 40)).toInt = ((o : Int) : Int) from (hM.2.2.1.trans (by omega))) (show (((Int8.ofInt 20).toInt32)).toInt = 20 from by decide) h44_3
      exfalso
      omega
    · have h44_3 := aw_eq_f (a := ((o : Int) : Int)) (b := (20 : Int)) (show ((w.1 184 40)).toInt = ((o : Int) : Int) from (hM.2.2.1.trans (by omega))) (show (((Int8.ofInt 20).toInt32)).toInt = 20 from by decide) h44_3
      refine wk_aload_n xd_7838432e rfl ?_
      refine wk_getI xf_db488d2b xd_c7df23c2 ?_
      refine wk_bipush xd_fe1716ce ?_
      refine wk_icmp xd_39ca0028 (t := 62) rfl (fun h53_4 => ?_) (fun h53_4 => ?_)
      · have h53_4 := aw_le_t (a := ((d : Int) : Int)) (b := (8 : Int)) (show ((w.1 184 42)).toInt = ((d : Int) : Int) from (hM.2.2.2.2.1.trans (by omega))) (show (((Int8.ofInt 8).toInt32)).toInt = 8 from by decide) h53_4
        refine wk_aload_n xd_3a2cc466 rfl ?_
        refine wk_dup_r xd_74bb42e5 ?_
        refine wk_getI xf_4633a7bb xd_166e7a4c ?_
        refine wk_iconst xd_174d4838 ?_
        refine aw_iadd (a := ((o : Int) : Int)) (b := (1 : Int)) (e := ((o : Int) + 1 : Int)) xd_900ab995 (show ((w.1 184 40)).toInt = ((o : Int) : Int) from (hM.2.2.1.trans (by omega))) (show ((Int32.ofInt 1)).toInt = 1 from by decide) (by omega) (by omega) (by omega) (fun v6_ p6_ => ?_)
        refine wk_putI xf_34a287e5 (fun ci => wk_fitI ci) xd_d1723e1d ?_
        refine wk_aload_n xd_bb09a141 rfl ?_
        have hMn7_0 : sr_M (cm_u1 w 184 40 v6_) T n m p ((o + 1)) (t) (d) (c) (0) := (sr_mk (o' := (o + 1)) (t' := t) (d' := d) (c' := c) (f' := 0) hM ⟨fun i => by rw [hs_u1_ne (by omega)], fun i hi => by rw [hs_u1_ne (by omega)], rfl⟩ (by have e9 : ((cm_u1 w 184 40 v6_).1 184 40).toInt = ((o : Int) + 1 : Int) := (show (((cm_u1 w 184 40 v6_).1 184 40)).toInt = ((o : Int) + 1 : Int) from p6_); omega) (by have e9 : ((cm_u1 w 184 40 v6_).1 184 41).toInt = ((t : Int) : Int) := (show (((cm_u1 w 184 40 v6_).1 184 41)).toInt = ((t : Int) : Int) from (hM.2.2.2.1.trans (by omega))); omega) (by have e9 : ((cm_u1 w 184 40 v6_).1 184 42).toInt = ((d : Int) : Int) := (show (((cm_u1 w 184 40 v6_).1 184 42)).toInt = ((d : Int) : Int) from (hM.2.2.2.2.1.trans (by omega))); omega) (by have e9 : ((cm_u1 w 184 40 v6_).1 184 39).toInt = ((c : Int) : Int) := (show (((cm_u1 w 184 40 v6_).1 184 39)).toInt = ((c : Int) : Int) from (hM.2.2.2.2.2.1.trans (by omega))); omega) (by have e9 : ((cm_u1 w 184 40 v6_).1 184 43).toInt = (0 : Int) := (show (((cm_u1 w 184 40 v6_).1 184 43)).toInt = (0 : Int) from (hM.2.2.2.2.2.2.trans (by omega))); omega))
        have hVn7_0 : sr_V w (cm_u1 w 184 40 v6_) := (sr_V_tr (sr_V_rf w) (show sr_V w (cm_u1 w 184 40 v6_) from fun k i a b c => ⟨by rw [hs_u1_ne (by omega)], rfl⟩))
        obtain ⟨wn7_, hCn7_, hSn7_, hMn7_⟩ := sr_next hMn7_0 hsz
        have hVn7_ := sr_V_tr hVn7_0 (sr_V_E (rm_E_S hSn7_))
        have hKn7_ : sr_K wn7_ s := sr_K_lt (w := w) _ (fun i _ => by rw [(hSn7_ 199 i (by omega)).1, hs_u1_ne (by omega)]) hK
        refine wk_call (kd := 0) (i := 179) xd_56092a07 rfl (wk_cal (as := [.inr (.inr (some 184))]) (t := []) xl_b037c8bc rfl xn_00af7311 xc_b2cf5bb1 rfl rfl xv_e7aa8f3d rfl) (cm_C_mono (by omega) hCn7_) ?_
        refine wk_iload_n xd_dc36fa0f rfl ?_
        refine wk_if xd_8ac39bcf (t := 84) rfl (fun h => absurd (aw_ne_t ew13_4 hb_z h) (by omega)) (fun _ => ?_)
        refine wk_iload_n xd_9549f96c rfl ?_
        refine wk_if xd_5b45533c (t := 126) rfl (fun _ => ?_) (fun h => absurd (aw_eq_f eg40_11 hb_z h) (by omega))
        refine wk_aload_n xd_8e3cde17 rfl ?_
        refine wk_iconst xd_50489dc4 ?_
        refine wk_putI xf_e791d0f4 (fun _ => aw_fb (.inr (by decide))) xd_2cb26948 ?_
        refine wk_iload_n xd_64038a23 rfl ?_
        refine wk_iconst xd_c712fa00 ?_
        refine wk_icmp xd_57308876 (t := 145) rfl (fun _ => ?_) (fun h => absurd (aw_ge_f eL (show ((Int32.ofInt 2)).toInt = 2 from by decide) h) (by omega))
        refine wk_iload_n xd_55471cc7 rfl ?_
        refine wk_iconst xd_624a040e ?_
        refine wk_icmp xd_b750c209 (t := 201) rfl (fun h => absurd (aw_ge_t eL (show ((Int32.ofInt 4)).toInt = 4 from by decide) h) (by omega)) (fun _ => ?_)
        skip
        refine wk_aload_n xd_52ee9b1a rfl ?_
        refine wk_iload_n xd_d43ed873 rfl ?_
        refine wk_iconst xd_2ad8887a ?_
        refine wk_icmp xd_e7b5a29e (t := 160) rfl (fun h => absurd (aw_ne_t eL (show ((Int32.ofInt 2)).toInt = 2 from by decide) h) (by omega)) (fun _ => ?_)
        refine wk_iconst xd_0cb9481a ?_
        refine wk_goto xd_21fbcb6d (t := 162) rfl ?_
        refine wk_aload_n xd_e766e1db rfl ?_
        refine wk_getR xf_f27fbcc3 xd_646843cd ?_
        refine wk_iload_n xd_fa99e9f5 rfl ?_
        refine wk_iconst xd_17b44687 ?_
        refine wk_icmp xd_947d5ef0 (t := 175) rfl (fun h => absurd (aw_ne_t eL (show ((Int32.ofInt 2)).toInt = 2 from by decide) h) (by omega)) (fun _ => ?_)
        refine wk_iconst xd_84f6a5b3 ?_
        refine wk_goto xd_d3d533bf (t := 176) rfl ?_
        refine aw_iaload (i := 0) xf_31d67ad9 (show ((Int32.ofInt 0)).toInt = 0 from by decide) (by omega) (by omega) xd_2a4c6dd9 ?_
        have hMq : sr_M (cm_u1 wn7_ 184 43 (Int32.ofInt 1)) T n m (tx_tk T n m p).2.2.1 ((o + 1)) (t) (d) (c) (1) := (sr_mk (o' := (o + 1)) (t' := t) (d' := d) (c' := c) (f' := 1) hMn7_ ⟨fun i => by rw [hs_u1_ne (by omega)], fun i hi => by rw [hs_u1_ne (by omega)], rfl⟩ (by have e9 : ((cm_u1 wn7_ 184 43 (Int32.ofInt 1)).1 184 40).toInt = ((o : Int) + 1 : Int) := (show (((cm_u1 wn7_ 184 43 (Int32.ofInt 1)).1 184 40)).toInt = ((o : Int) + 1 : Int) from (hMn7_.2.2.1.trans (by omega))); omega) (by have e9 : ((cm_u1 wn7_ 184 43 (Int32.ofInt 1)).1 184 41).toInt = ((t : Int) : Int) := (show (((cm_u1 wn7_ 184 43 (Int32.ofInt 1)).1 184 41)).toInt = ((t : Int) : Int) from (hMn7_.2.2.2.1.trans (by omega))); omega) (by have e9 : ((cm_u1 wn7_ 184 43 (Int32.ofInt 1)).1 184 42).toInt = ((d : Int) : Int) := (show (((cm_u1 wn7_ 184 43 (Int32.ofInt 1)).1 184 42)).toInt = ((d : Int) : Int) from (hMn7_.2.2.2.2.1.trans (by omega))); omega) (by have e9 : ((cm_u1 wn7_ 184 43 (Int32.ofInt 1)).1 184 39).toInt = ((c : Int) : Int) := (show (((cm_u1 wn7_ 184 43 (Int32.ofInt 1)).1 184 39)).toInt = ((c : Int) : Int) from (hMn7_.2.2.2.2.2.1.trans (by omega))); omega) (by have e9 : ((cm_u1 wn7_ 184 43 (Int32.ofInt 1)).1 184 43).toInt = (1 : Int) := (show (((cm_u1 wn7_ 184 43 (Int32.ofInt 1)).1 184 43)).toInt = (1 : Int) from (show ((Int32.ofInt 1)).toInt = 1 from by decide)); omega))
        have hRq := sr_V_R hVn7_ hR
        obtain ⟨xk, wk, hCk, hk⟩ := sr_look (w := (cm_u1 wn7_ 184 43 (Int32.ofInt 1))) (nm := nm) (a := 0) (b := 0) (k := (h 0).toNat) (va := (Int32.ofInt 0)) (vb := ((cm_u1 wn7_ 184 43 (Int32.ofInt 1)).1 186 0)) hMq.1 (sr_n0 hRq).1 (sr_n0 hRq).2.1 (show ((Int32.ofInt 0)).toInt = 0 from by decide) ((show (((cm_u1 wn7_ 184 43 (Int32.ofInt 1)).1 186 0)).toInt = (((h 0).toNat : Int) : Int) from (sr_n0 (sr_V_R hVn7_ hR)).2.2))
        refine wk_call (kd := 0) (i := 201) xd_7edbaf08 rfl (wk_cal (as := [.inr (.inr (some 184)), .inl (Int32.ofInt 0), .inl ((cm_u1 wn7_ 184 43 (Int32.ofInt 1)).1 186 0)]) (t := []) xl_fd79e57f rfl xn_77145da2 xc_6d225164 rfl rfl xv_5b2ff62c rfl) (cm_C_mono (by omega) hCk) ?_
        rcases hk with ⟨i9, el, hxk, hgk, fk1, fk2⟩ | ⟨k9, q9, el, hxk, hBk⟩
        · have hlb := ps_look_b el
          have hMk : sr_M wk T n m (tx_tk T n m p).2.2.1 ((o + 1)) (t) (d) (c) (1) := sr_mk hMq ⟨fun i => fk1 185 i (by omega), fun i hi => fk1 184 i (by omega), fk2⟩ (by rw [fk1 184 40 (by omega)]; exact hMq.2.2.1) (by rw [fk1 184 41 (by omega)]; exact hMq.2.2.2.1) (by rw [fk1 184 42 (by omega)]; exact hMq.2.2.2.2.1) (by rw [fk1 184 39 (by omega)]; exact hMq.2.2.2.2.2.1) (by rw [fk1 184 43 (by omega)]; exact hMq.2.2.2.2.2.2)
          have hVk : sr_V w wk := sr_V_tr (sr_V_tr hVn7_ (show sr_V wn7_ (cm_u1 wn7_ 184 43 (Int32.ofInt 1)) from fun k i a b c => ⟨by rw [hs_u1_ne (by omega)], rfl⟩)) (fun k i a b c => ⟨fk1 k i (by omega), by rw [fk2]⟩)
          have hKk : sr_K wk s := sr_K_lt (w := wn7_) _ (fun i _ => by rw [fk1 199 i (by omega), hs_u1_ne (by omega)]) hKn7_
          refine wk_if xd_8beb3672 (t := 185) rfl (fun _ => ?_) (fun h => absurd (aw_ne_f hxk hb_z h) (by omega))
          refine wk_aload_n xd_f3ef179b rfl ?_
          refine wk_iload_n xd_98a9871b rfl ?_
          refine wk_iconst xd_800724bb ?_
          refine wk_aload_n xd_68791ffa rfl ?_
          refine wk_getI xf_fc12efb4 xd_782a7ab2 ?_
          obtain ⟨wc, hCc, fc1, fc2, fc3⟩ := sr_code (w := wk) (va := xL) (vb := (Int32.ofInt 0)) (vd := (wk.1 184 18)) (c := c) ((show ((wk.1 184 39)).toInt = ((c : Int) : Int) from (hMk.2.2.2.2.2.1.trans (by omega)))) (by omega)
          have hMp : sr_M wk T n m (tx_tk T n m p).2.2.1 ((o + 1)) (t) (d) (c) (1) := hMk
          have hMc : sr_M wc T n m (tx_tk T n m p).2.2.1 ((o + 1)) (t) (d) (c + 1) (1) := sr_mk hMp ⟨fun i => fc1 185 i (by omega) (by omega), fun i hi => fc1 184 i (by omega) (by omega), fc2⟩ (by rw [fc1 184 40 (by omega) (by omega)]; exact hMp.2.2.1) (by rw [fc1 184 41 (by omega) (by omega)]; exact hMp.2.2.2.1) (by rw [fc1 184 42 (by omega) (by omega)]; exact hMp.2.2.2.2.1) fc3 (by rw [fc1 184 43 (by omega) (by omega)]; exact hMp.2.2.2.2.2.2)
          have hVc : sr_V w wc := sr_V_tr hVk (fun k i a b c => ⟨fc1 k i (by omega) b, by rw [fc2]⟩)
          have hKc : sr_K wc s := sr_K_lt (w := wk) _ (fun i _ => by rw [fc1 199 i (by omega) (by omega)]) hKk
          refine wk_call (kd := 0) (i := 413) xd_33b47209 rfl (wk_cal (as := [.inr (.inr (some 184)), .inl xL, .inl (Int32.ofInt 0), .inl (wk.1 184 18)]) (t := []) xl_c3f3b8fa rfl xn_2844c07f xc_82edc90f rfl rfl xv_6dbeb463 rfl) (cm_C_mono (by omega) hCc) ?_
          refine wk_aload_n xd_72ca72bc rfl ?_
          have hMn15_0 : sr_M wc T n m (tx_tk T n m p).2.2.1 ((o + 1)) (t) (d) ((c + 1)) (1) := hMc
          have hVn15_0 : sr_V w wc := hVc
          obtain ⟨wn15_, hCn15_, hSn15_, hMn15_⟩ := sr_next hMn15_0 hlb.2.2
          have hVn15_ := sr_V_tr hVn15_0 (sr_V_E (rm_E_S hSn15_))
          have hKn15_ : sr_K wn15_ s := sr_K_lt (w := wc) _ (fun i _ => by rw [(hSn15_ 199 i (by omega)).1]) hKc
          refine wk_call (kd := 0) (i := 179) xd_c6fa0556 rfl (wk_cal (as := [.inr (.inr (some 184))]) (t := []) xl_b037c8bc rfl xn_00af7311 xc_b2cf5bb1 rfl rfl xv_e7aa8f3d rfl) (cm_C_mono (by omega) hCn15_) ?_
          refine wk_iconst xd_eda69b5f ?_
          exact wk_ireturn xd_7a7b4e5e xr_d37bfb88 wk_z1 ⟨_, _, rfl, hVn15_, .inl ⟨_, sp_n_y el, by decide, hMn15_, hKn15_⟩⟩
        · have hVk : sr_V w wk := sr_V_tr (sr_V_tr hVn7_ (show sr_V wn7_ (cm_u1 wn7_ 184 43 (Int32.ofInt 1)) from fun k i a b c => ⟨by rw [hs_u1_ne (by omega)], rfl⟩)) (sr_V_E (rm_E_B hBk))
          refine wk_if xd_8beb3672 (t := 185) rfl (fun h => absurd (aw_ne_t hxk hb_z h) (by omega)) (fun _ => ?_)
          refine wk_iconst xd_dca6b7bb ?_
          exact wk_ireturn xd_a72455d8 xr_d37bfb88 wk_z0 ⟨_, _, rfl, hVk, .inr ⟨_, _, sp_n_e el, by decide, (cr_B_B hBk)⟩⟩
      · have h53_4 := aw_le_f (a := ((d : Int) : Int)) (b := (8 : Int)) (show ((w.1 184 42)).toInt = ((d : Int) : Int) from (hM.2.2.2.2.1.trans (by omega))) (show (((Int8.ofInt 8).toInt32)).toInt = 8 from by decide) h53_4
        exfalso
        omega
  obtain ⟨oo, hC, x, w', rfl, a⟩ := h9
  exact ⟨x, w', hC, a⟩
theorem op_17 {T : Nat → Int} {n m p o t d c : Nat} {h : Nat → Int} {nm : Nat → Nat} {s : List Nat} {w : cm_W} (hR : mv_R w h nm) (hM : sr_M w T n m p o t d c 0) (hK : sr_K w s) (ht : t = s.length) (hin : c + t ≤ 2 * o) (ho : o ≤ 20) (h4a : o ≠ 20) (h4b : d ≤ 8) (hw : ps_wd (tx_tk T n m p) 17) : ∃ x w', cm_C 5 134 [.inr (.inr (some 184))] w (some (.inl x), w') ∧ sr_V w w' ∧ ((∃ p', sp_nam T n m nm 10 (h 2).toNat (o + 1) (tx_tk T n m p).2.2.1 = .inr (o + 1, p') ∧ x.toInt = 1 ∧ sr_M w' T n m p' (o + 1) t d (c + 1) 1 ∧ sr_K w' s) ∨ (∃ k9 q9, sp_nam T n m nm 10 (h 2).toNat (o + 1) (tx_tk T n m p).2.2.1 = .inl (k9, q9) ∧ x.toInt = 0 ∧ cr_B w' k9 q9)) := by
  have hsz : 1 ≤ (tx_tk T n m p).1 ∧ (tx_tk T n m p).1 ≤ 3 := by have := hw.1; omega
  have h9 : ∃ oo, cm_C (4 + 1) 134 [.inr (.inr (some 184))] w oo ∧ (fun oo : cm_O => ∃ x w', oo = (some (.inl x), w') ∧ sr_V w w' ∧ ((∃ p', sp_nam T n m nm 10 (h 2).toNat (o + 1) (tx_tk T n m p).2.2.1 = .inr (o + 1, p') ∧ x.toInt = 1 ∧ sr_M w' T n m p' (o + 1) t d (c + 1) 1 ∧ sr_K w' s) ∨ (∃ k9 q9, sp_nam T n m nm 10 (h 2).toNat (o + 1) (tx_tk T n m p).2.2.1 = .inl (k9, q9) ∧ x.toInt = 0 ∧ cr_B w' k9 q9))) oo := by
    refine wk_entry (by rw [xm_48b35298]; exact Nat.le_of_ble_eq_true rfl) ?_
    rw [show cm_ent 134 [.inr (.inr (some 184))] = [some (.inr (.inr (some 184))), none, none, none, none] from by unfold cm_ent; rw [xm_48b35298]; rfl]
    refine wk_aload_n xd_a1fb5497 rfl ?_
    refine aw_ldc2 xl_89aa3103 rfl xd_5773a0fa ?_
    obtain ⟨xw13_4, hCw13_4, hxw13_4⟩ := mw_ok (w := w) (l := (Int64.ofNat 7237492)) (c := tx_rw.getD 13 0) (by decide) (tx_rw32 (by omega)) hM.1.2.1
    have ew13_4 : xw13_4.toInt = 0 := hxw13_4.elim (fun z => absurd z.2 (ps_wd_ne (i := 13) hw (by omega) (by omega) (by omega))) (fun z => z.1)
    refine wk_call (kd := 0) (i := 210) xd_0deea7b7 rfl (wk_cal (as := [.inr (.inr (some 184)), .inr (.inl (Int64.ofNat 7237492))]) (t := []) xl_7862eed5 rfl xn_94b640da xc_24159032 rfl rfl xv_bdbd9e17 rfl) (cm_C_mono (by omega) hCw13_4) ?_
    refine wk_istore_n xd_c2c3eb22 (by rw [xm_48b35298]; rfl) rfl ?_
    refine wk_aload_n xd_a14217b1 rfl ?_
    refine wk_bipush xd_ece49f92 ?_
    obtain ⟨xg40_11, hCg40_11, hxg40_11⟩ := mi_ok (w := w) (k := ((Int8.ofInt 40).toInt32)) (c := 40) (by decide) hM.1.2.1
    have eg40_11 : xg40_11.toInt = 0 := hxg40_11.elim (fun z => absurd z.2 (fun z => by have := z.1; have := hw.1; omega)) (fun z => z.1)
    refine wk_call (kd := 0) (i := 173) xd_4839f43b rfl (wk_cal (as := [.inr (.inr (some 184)), .inl ((Int8.ofInt 40).toInt32)]) (t := []) xl_eb23fbe0 rfl xn_225279b5 xc_ca564353 rfl rfl xv_bcdeec94 rfl) (cm_C_mono (by omega) hCg40_11) ?_
    refine wk_istore_n xd_00371d67 (by rw [xm_48b35298]; rfl) rfl ?_
    refine wk_aload_n xd_7d8d6bbf rfl ?_
    obtain ⟨xL, hCL, hxL⟩ := sr_leaf (w := w) hM.1.2.1
    have eL : xL.toInt = (3 : Int) := by
      rcases hxL with ⟨k', a1, a2, a3, a4⟩ | ⟨a1, a2⟩
      · by_cases e : k' = 17
        · omega
        · exact absurd hw (ps_wd_ne a3 (by omega) (by omega) (fun z => e z.symm))
      · exact absurd hw (a2 17 (by omega) (by omega))
    refine wk_call (kd := 0) (i := 420) xd_25dbaac8 rfl (wk_cal (as := [.inr (.inr (some 184))]) (t := []) xl_a8e7eb95 rfl xn_c55f9e10 xc_77da5405 rfl rfl xv_50854d28 rfl) (cm_C_mono (by omega) hCL) ?_
    refine wk_istore_n xd_0779f311 (by rw [xm_48b35298]; rfl) rfl ?_
    refine wk_iload_n xd_d9df730d rfl ?_
    refine wk_if xd_05282231 (t := 38) rfl (fun h => absurd (aw_ne_t ew13_4 hb_z h) (by omega)) (fun _ => ?_)
    refine wk_iload_n xd_9e23a84e rfl ?_
    refine wk_if xd_91e9efb4 (t := 38) rfl (fun h => absurd (aw_ne_t eg40_11 hb_z h) (by omega)) (fun _ => ?_)
    refine wk_iload_n xd_a3a6634b rfl ?_
    refine wk_if xd_4f86be8c (t := 38) rfl (fun _ => ?_) (fun h => absurd (aw_ge_f eL hb_z h) (by omega))
    refine wk_aload_n xd_3f20afd1 rfl ?_
    refine wk_getI xf_4633a7bb xd_810317bd ?_
    refine wk_bipush xd_e39b8983 ?_
    refine wk_icmp xd_41784522 (t := 56) rfl (fun h44_3 => ?_) (fun h44_3 => ?_)
    · have h44_3 := aw_eq_t (a := ((o : Int) : Int)) (b := (20 : Int)) (show ((w.1 184 40)).toInt = ((o : Int) : Int) from (hM.2.2.1.trans (by omega))) (show (((Int8.ofInt 20).toInt32)).toInt = 20 from by decide) h44_3
      exfalso
      omega
    · have h44_3 := aw_eq_f (a := ((o : Int) : Int)) (b := (20 : Int)) (show ((w.1 184 40)).toInt = ((o : Int) : Int) from (hM.2.2.1.trans (by omega))) (show (((Int8.ofInt 20).toInt32)).toInt = 20 from by decide) h44_3
      refine wk_aload_n xd_7838432e rfl ?_
      refine wk_getI xf_db488d2b xd_c7df23c2 ?_
      refine wk_bipush xd_fe1716ce ?_
      refine wk_icmp xd_39ca0028 (t := 62) rfl (fun h53_4 => ?_) (fun h53_4 => ?_)
      · have h53_4 := aw_le_t (a := ((d : Int) : Int)) (b := (8 : Int)) (show ((w.1 184 42)).toInt = ((d : Int) : Int) from (hM.2.2.2.2.1.trans (by omega))) (show (((Int8.ofInt 8).toInt32)).toInt = 8 from by decide) h53_4
        refine wk_aload_n xd_3a2cc466 rfl ?_
        refine wk_dup_r xd_74bb42e5 ?_
        refine wk_getI xf_4633a7bb xd_166e7a4c ?_
        refine wk_iconst xd_174d4838 ?_
        refine aw_iadd (a := ((o : Int) : Int)) (b := (1 : Int)) (e := ((o : Int) + 1 : Int)) xd_900ab995 (show ((w.1 184 40)).toInt = ((o : Int) : Int) from (hM.2.2.1.trans (by omega))) (show ((Int32.ofInt 1)).toInt = 1 from by decide) (by omega) (by omega) (by omega) (fun v6_ p6_ => ?_)
        refine wk_putI xf_34a287e5 (fun ci => wk_fitI ci) xd_d1723e1d ?_
        refine wk_aload_n xd_bb09a141 rfl ?_
        have hMn7_0 : sr_M (cm_u1 w 184 40 v6_) T n m p ((o + 1)) (t) (d) (c) (0) := (sr_mk (o' := (o + 1)) (t' := t) (d' := d) (c' := c) (f' := 0) hM ⟨fun i => by rw [hs_u1_ne (by omega)], fun i hi => by rw [hs_u1_ne (by omega)], rfl⟩ (by have e9 : ((cm_u1 w 184 40 v6_).1 184 40).toInt = ((o : Int) + 1 : Int) := (show (((cm_u1 w 184 40 v6_).1 184 40)).toInt = ((o : Int) + 1 : Int) from p6_); omega) (by have e9 : ((cm_u1 w 184 40 v6_).1 184 41).toInt = ((t : Int) : Int) := (show (((cm_u1 w 184 40 v6_).1 184 41)).toInt = ((t : Int) : Int) from (hM.2.2.2.1.trans (by omega))); omega) (by have e9 : ((cm_u1 w 184 40 v6_).1 184 42).toInt = ((d : Int) : Int) := (show (((cm_u1 w 184 40 v6_).1 184 42)).toInt = ((d : Int) : Int) from (hM.2.2.2.2.1.trans (by omega))); omega) (by have e9 : ((cm_u1 w 184 40 v6_).1 184 39).toInt = ((c : Int) : Int) := (show (((cm_u1 w 184 40 v6_).1 184 39)).toInt = ((c : Int) : Int) from (hM.2.2.2.2.2.1.trans (by omega))); omega) (by have e9 : ((cm_u1 w 184 40 v6_).1 184 43).toInt = (0 : Int) := (show (((cm_u1 w 184 40 v6_).1 184 43)).toInt = (0 : Int) from (hM.2.2.2.2.2.2.trans (by omega))); omega))
        have hVn7_0 : sr_V w (cm_u1 w 184 40 v6_) := (sr_V_tr (sr_V_rf w) (show sr_V w (cm_u1 w 184 40 v6_) from fun k i a b c => ⟨by rw [hs_u1_ne (by omega)], rfl⟩))
        obtain ⟨wn7_, hCn7_, hSn7_, hMn7_⟩ := sr_next hMn7_0 hsz
        have hVn7_ := sr_V_tr hVn7_0 (sr_V_E (rm_E_S hSn7_))
        have hKn7_ : sr_K wn7_ s := sr_K_lt (w := w) _ (fun i _ => by rw [(hSn7_ 199 i (by omega)).1, hs_u1_ne (by omega)]) hK
        refine wk_call (kd := 0) (i := 179) xd_56092a07 rfl (wk_cal (as := [.inr (.inr (some 184))]) (t := []) xl_b037c8bc rfl xn_00af7311 xc_b2cf5bb1 rfl rfl xv_e7aa8f3d rfl) (cm_C_mono (by omega) hCn7_) ?_
        refine wk_iload_n xd_dc36fa0f rfl ?_
        refine wk_if xd_8ac39bcf (t := 84) rfl (fun h => absurd (aw_ne_t ew13_4 hb_z h) (by omega)) (fun _ => ?_)
        refine wk_iload_n xd_9549f96c rfl ?_
        refine wk_if xd_5b45533c (t := 126) rfl (fun _ => ?_) (fun h => absurd (aw_eq_f eg40_11 hb_z h) (by omega))
        refine wk_aload_n xd_8e3cde17 rfl ?_
        refine wk_iconst xd_50489dc4 ?_
        refine wk_putI xf_e791d0f4 (fun _ => aw_fb (.inr (by decide))) xd_2cb26948 ?_
        refine wk_iload_n xd_64038a23 rfl ?_
        refine wk_iconst xd_c712fa00 ?_
        refine wk_icmp xd_57308876 (t := 145) rfl (fun _ => ?_) (fun h => absurd (aw_ge_f eL (show ((Int32.ofInt 2)).toInt = 2 from by decide) h) (by omega))
        refine wk_iload_n xd_55471cc7 rfl ?_
        refine wk_iconst xd_624a040e ?_
        refine wk_icmp xd_b750c209 (t := 201) rfl (fun h => absurd (aw_ge_t eL (show ((Int32.ofInt 4)).toInt = 4 from by decide) h) (by omega)) (fun _ => ?_)
        skip
        refine wk_aload_n xd_52ee9b1a rfl ?_
        refine wk_iload_n xd_d43ed873 rfl ?_
        refine wk_iconst xd_2ad8887a ?_
        refine wk_icmp xd_e7b5a29e (t := 160) rfl (fun _ => ?_) (fun h => absurd (aw_ne_f eL (show ((Int32.ofInt 2)).toInt = 2 from by decide) h) (by omega))
        refine wk_bipush xd_8ce8c176 ?_
        refine wk_aload_n xd_e766e1db rfl ?_
        refine wk_getR xf_f27fbcc3 xd_646843cd ?_
        refine wk_iload_n xd_fa99e9f5 rfl ?_
        refine wk_iconst xd_17b44687 ?_
        refine wk_icmp xd_947d5ef0 (t := 175) rfl (fun _ => ?_) (fun h => absurd (aw_ne_f eL (show ((Int32.ofInt 2)).toInt = 2 from by decide) h) (by omega))
        refine wk_iconst xd_a29765d3 ?_
        refine aw_iaload (i := 2) xf_31d67ad9 (show ((Int32.ofInt 2)).toInt = 2 from by decide) (by omega) (by omega) xd_2a4c6dd9 ?_
        have hMq : sr_M (cm_u1 wn7_ 184 43 (Int32.ofInt 1)) T n m (tx_tk T n m p).2.2.1 ((o + 1)) (t) (d) (c) (1) := (sr_mk (o' := (o + 1)) (t' := t) (d' := d) (c' := c) (f' := 1) hMn7_ ⟨fun i => by rw [hs_u1_ne (by omega)], fun i hi => by rw [hs_u1_ne (by omega)], rfl⟩ (by have e9 : ((cm_u1 wn7_ 184 43 (Int32.ofInt 1)).1 184 40).toInt = ((o : Int) + 1 : Int) := (show (((cm_u1 wn7_ 184 43 (Int32.ofInt 1)).1 184 40)).toInt = ((o : Int) + 1 : Int) from (hMn7_.2.2.1.trans (by omega))); omega) (by have e9 : ((cm_u1 wn7_ 184 43 (Int32.ofInt 1)).1 184 41).toInt = ((t : Int) : Int) := (show (((cm_u1 wn7_ 184 43 (Int32.ofInt 1)).1 184 41)).toInt = ((t : Int) : Int) from (hMn7_.2.2.2.1.trans (by omega))); omega) (by have e9 : ((cm_u1 wn7_ 184 43 (Int32.ofInt 1)).1 184 42).toInt = ((d : Int) : Int) := (show (((cm_u1 wn7_ 184 43 (Int32.ofInt 1)).1 184 42)).toInt = ((d : Int) : Int) from (hMn7_.2.2.2.2.1.trans (by omega))); omega) (by have e9 : ((cm_u1 wn7_ 184 43 (Int32.ofInt 1)).1 184 39).toInt = ((c : Int) : Int) := (show (((cm_u1 wn7_ 184 43 (Int32.ofInt 1)).1 184 39)).toInt = ((c : Int) : Int) from (hMn7_.2.2.2.2.2.1.trans (by omega))); omega) (by have e9 : ((cm_u1 wn7_ 184 43 (Int32.ofInt 1)).1 184 43).toInt = (1 : Int) := (show (((cm_u1 wn7_ 184 43 (Int32.ofInt 1)).1 184 43)).toInt = (1 : Int) from (show ((Int32.ofInt 1)).toInt = 1 from by decide)); omega))
        have hRq := sr_V_R hVn7_ hR
        obtain ⟨xk, wk, hCk, hk⟩ := sr_look (w := (cm_u1 wn7_ 184 43 (Int32.ofInt 1))) (nm := nm) (a := 10) (b := 10) (k := (h 2).toNat) (va := ((Int8.ofInt 10).toInt32)) (vb := ((cm_u1 wn7_ 184 43 (Int32.ofInt 1)).1 186 2)) hMq.1 (sr_n2 hRq).1 (sr_n2 hRq).2.1 (show (((Int8.ofInt 10).toInt32)).toInt = 10 from by decide) ((show (((cm_u1 wn7_ 184 43 (Int32.ofInt 1)).1 186 2)).toInt = (((h 2).toNat : Int) : Int) from (sr_n2 (sr_V_R hVn7_ hR)).2.2))
        refine wk_call (kd := 0) (i := 201) xd_7edbaf08 rfl (wk_cal (as := [.inr (.inr (some 184)), .inl ((Int8.ofInt 10).toInt32), .inl ((cm_u1 wn7_ 184 43 (Int32.ofInt 1)).1 186 2)]) (t := []) xl_fd79e57f rfl xn_77145da2 xc_6d225164 rfl rfl xv_5b2ff62c rfl) (cm_C_mono (by omega) hCk) ?_
        rcases hk with ⟨i9, el, hxk, hgk, fk1, fk2⟩ | ⟨k9, q9, el, hxk, hBk⟩
        · have hlb := ps_look_b el
          have hMk : sr_M wk T n m (tx_tk T n m p).2.2.1 ((o + 1)) (t) (d) (c) (1) := sr_mk hMq ⟨fun i => fk1 185 i (by omega), fun i hi => fk1 184 i (by omega), fk2⟩ (by rw [fk1 184 40 (by omega)]; exact hMq.2.2.1) (by rw [fk1 184 41 (by omega)]; exact hMq.2.2.2.1) (by rw [fk1 184 42 (by omega)]; exact hMq.2.2.2.2.1) (by rw [fk1 184 39 (by omega)]; exact hMq.2.2.2.2.2.1) (by rw [fk1 184 43 (by omega)]; exact hMq.2.2.2.2.2.2)
          have hVk : sr_V w wk := sr_V_tr (sr_V_tr hVn7_ (show sr_V wn7_ (cm_u1 wn7_ 184 43 (Int32.ofInt 1)) from fun k i a b c => ⟨by rw [hs_u1_ne (by omega)], rfl⟩)) (fun k i a b c => ⟨fk1 k i (by omega), by rw [fk2]⟩)
          have hKk : sr_K wk s := sr_K_lt (w := wn7_) _ (fun i _ => by rw [fk1 199 i (by omega), hs_u1_ne (by omega)]) hKn7_
          refine wk_if xd_8beb3672 (t := 185) rfl (fun _ => ?_) (fun h => absurd (aw_ne_f hxk hb_z h) (by omega))
          refine wk_aload_n xd_f3ef179b rfl ?_
          refine wk_iload_n xd_98a9871b rfl ?_
          refine wk_iconst xd_800724bb ?_
          refine wk_aload_n xd_68791ffa rfl ?_
          refine wk_getI xf_fc12efb4 xd_782a7ab2 ?_
          obtain ⟨wc, hCc, fc1, fc2, fc3⟩ := sr_code (w := wk) (va := xL) (vb := (Int32.ofInt 0)) (vd := (wk.1 184 18)) (c := c) ((show ((wk.1 184 39)).toInt = ((c : Int) : Int) from (hMk.2.2.2.2.2.1.trans (by omega)))) (by omega)
          have hMp : sr_M wk T n m (tx_tk T n m p).2.2.1 ((o + 1)) (t) (d) (c) (1) := hMk
          have hMc : sr_M wc T n m (tx_tk T n m p).2.2.1 ((o + 1)) (t) (d) (c + 1) (1) := sr_mk hMp ⟨fun i => fc1 185 i (by omega) (by omega), fun i hi => fc1 184 i (by omega) (by omega), fc2⟩ (by rw [fc1 184 40 (by omega) (by omega)]; exact hMp.2.2.1) (by rw [fc1 184 41 (by omega) (by omega)]; exact hMp.2.2.2.1) (by rw [fc1 184 42 (by omega) (by omega)]; exact hMp.2.2.2.2.1) fc3 (by rw [fc1 184 43 (by omega) (by omega)]; exact hMp.2.2.2.2.2.2)
          have hVc : sr_V w wc := sr_V_tr hVk (fun k i a b c => ⟨fc1 k i (by omega) b, by rw [fc2]⟩)
          have hKc : sr_K wc s := sr_K_lt (w := wk) _ (fun i _ => by rw [fc1 199 i (by omega) (by omega)]) hKk
          refine wk_call (kd := 0) (i := 413) xd_33b47209 rfl (wk_cal (as := [.inr (.inr (some 184)), .inl xL, .inl (Int32.ofInt 0), .inl (wk.1 184 18)]) (t := []) xl_c3f3b8fa rfl xn_2844c07f xc_82edc90f rfl rfl xv_6dbeb463 rfl) (cm_C_mono (by omega) hCc) ?_
          refine wk_aload_n xd_72ca72bc rfl ?_
          have hMn15_0 : sr_M wc T n m (tx_tk T n m p).2.2.1 ((o + 1)) (t) (d) ((c + 1)) (1) := hMc
          have hVn15_0 : sr_V w wc := hVc
          obtain ⟨wn15_, hCn15_, hSn15_, hMn15_⟩ := sr_next hMn15_0 hlb.2.2
          have hVn15_ := sr_V_tr hVn15_0 (sr_V_E (rm_E_S hSn15_))
          have hKn15_ : sr_K wn15_ s := sr_K_lt (w := wc) _ (fun i _ => by rw [(hSn15_ 199 i (by omega)).1]) hKc
          refine wk_call (kd := 0) (i := 179) xd_c6fa0556 rfl (wk_cal (as := [.inr (.inr (some 184))]) (t := []) xl_b037c8bc rfl xn_00af7311 xc_b2cf5bb1 rfl rfl xv_e7aa8f3d rfl) (cm_C_mono (by omega) hCn15_) ?_
          refine wk_iconst xd_eda69b5f ?_
          exact wk_ireturn xd_7a7b4e5e xr_d37bfb88 wk_z1 ⟨_, _, rfl, hVn15_, .inl ⟨_, sp_n_y el, by decide, hMn15_, hKn15_⟩⟩
        · have hVk : sr_V w wk := sr_V_tr (sr_V_tr hVn7_ (show sr_V wn7_ (cm_u1 wn7_ 184 43 (Int32.ofInt 1)) from fun k i a b c => ⟨by rw [hs_u1_ne (by omega)], rfl⟩)) (sr_V_E (rm_E_B hBk))
          refine wk_if xd_8beb3672 (t := 185) rfl (fun h => absurd (aw_ne_t hxk hb_z h) (by omega)) (fun _ => ?_)
          refine wk_iconst xd_dca6b7bb ?_
          exact wk_ireturn xd_a72455d8 xr_d37bfb88 wk_z0 ⟨_, _, rfl, hVk, .inr ⟨_, _, sp_n_e el, by decide, (cr_B_B hBk)⟩⟩
      · have h53_4 := aw_le_f (a := ((d : Int) : Int)) (b := (8 : Int)) (show ((w.1 184 42)).toInt = ((d : Int) : Int) from (hM.2.2.2.2.1.trans (by omega))) (show (((Int8.ofInt 8).toInt32)).toInt = 8 from by decide) h53_4
        exfalso
        omega
  obtain ⟨oo, hC, x, w', rfl, a⟩ := h9
  exact ⟨x, w', hC, a⟩
theorem op_cmp {T : Nat → Int} {n m p o t d c : Nat} {h : Nat → Int} {nm : Nat → Nat} {s : List Nat} {w : cm_W} (hR : mv_R w h nm) (hM : sr_M w T n m p o t d c 0) (hK : sr_K w s) (ht : t = s.length) (hin : c + t ≤ 2 * o) (ho : o ≤ 20) (h4a : o ≠ 20) (h4b : d ≤ 8) {k : Nat} (hk1 : 18 ≤ k) (hk2 : k ≤ 21) (hw : ps_wd (tx_tk T n m p) k) : ∃ x w', cm_C 5 134 [.inr (.inr (some 184))] w (some (.inl x), w') ∧ sr_V w w' ∧ ((∃ p', sp_cmp T n m (o + 1) (tx_tk T n m p).2.2.1 = .inr (o + 1, p') ∧ x.toInt = 1 ∧ sr_M w' T n m p' (o + 1) t d (c + 1) 1 ∧ sr_K w' s) ∨ (∃ k9 q9, sp_cmp T n m (o + 1) (tx_tk T n m p).2.2.1 = .inl (k9, q9) ∧ x.toInt = 0 ∧ cr_B w' k9 q9)) := by
  have hsz : 1 ≤ (tx_tk T n m p).1 ∧ (tx_tk T n m p).1 ≤ 3 := by have := hw.1; omega
  have h9 : ∃ oo, cm_C (4 + 1) 134 [.inr (.inr (some 184))] w oo ∧ (fun oo : cm_O => ∃ x w', oo = (some (.inl x), w') ∧ sr_V w w' ∧ ((∃ p', sp_cmp T n m (o + 1) (tx_tk T n m p).2.2.1 = .inr (o + 1, p') ∧ x.toInt = 1 ∧ sr_M w' T n m p' (o + 1) t d (c + 1) 1 ∧ sr_K w' s) ∨ (∃ k9 q9, sp_cmp T n m (o + 1) (tx_tk T n m p).2.2.1 = .inl (k9, q9) ∧ x.toInt = 0 ∧ cr_B w' k9 q9))) oo := by
    refine wk_entry (by rw [xm_48b35298]; exact Nat.le_of_ble_eq_true rfl) ?_
    rw [show cm_ent 134 [.inr (.inr (some 184))] = [some (.inr (.inr (some 184))), none, none, none, none] from by unfold cm_ent; rw [xm_48b35298]; rfl]
    refine wk_aload_n xd_a1fb5497 rfl ?_
    refine aw_ldc2 xl_89aa3103 rfl xd_5773a0fa ?_
    obtain ⟨xw13_4, hCw13_4, hxw13_4⟩ := mw_ok (w := w) (l := (Int64.ofNat 7237492)) (c := tx_rw.getD 13 0) (by decide) (tx_rw32 (by omega)) hM.1.2.1
    have ew13_4 : xw13_4.toInt = 0 := hxw13_4.elim (fun z => absurd z.2 (ps_wd_ne (i := 13) hw (by omega) (by omega) (by omega))) (fun z => z.1)
    refine wk_call (kd := 0) (i := 210) xd_0deea7b7 rfl (wk_cal (as := [.inr (.inr (some 184)), .inr (.inl (Int64.ofNat 7237492))]) (t := []) xl_7862eed5 rfl xn_94b640da xc_24159032 rfl rfl xv_bdbd9e17 rfl) (cm_C_mono (by omega) hCw13_4) ?_
    refine wk_istore_n xd_c2c3eb22 (by rw [xm_48b35298]; rfl) rfl ?_
    refine wk_aload_n xd_a14217b1 rfl ?_
    refine wk_bipush xd_ece49f92 ?_
    obtain ⟨xg40_11, hCg40_11, hxg40_11⟩ := mi_ok (w := w) (k := ((Int8.ofInt 40).toInt32)) (c := 40) (by decide) hM.1.2.1
    have eg40_11 : xg40_11.toInt = 0 := hxg40_11.elim (fun z => absurd z.2 (fun z => by have := z.1; have := hw.1; omega)) (fun z => z.1)
    refine wk_call (kd := 0) (i := 173) xd_4839f43b rfl (wk_cal (as := [.inr (.inr (some 184)), .inl ((Int8.ofInt 40).toInt32)]) (t := []) xl_eb23fbe0 rfl xn_225279b5 xc_ca564353 rfl rfl xv_bcdeec94 rfl) (cm_C_mono (by omega) hCg40_11) ?_
    refine wk_istore_n xd_00371d67 (by rw [xm_48b35298]; rfl) rfl ?_
    refine wk_aload_n xd_7d8d6bbf rfl ?_
    obtain ⟨xL, hCL, hxL⟩ := sr_leaf (w := w) hM.1.2.1
    have eL : xL.toInt = ((k : Int) + (-14) : Int) := by
      rcases hxL with ⟨k', a1, a2, a3, a4⟩ | ⟨a1, a2⟩
      · by_cases e : k' = k
        · omega
        · exact absurd hw (ps_wd_ne a3 (by omega) (by omega) (fun z => e z.symm))
      · exact absurd hw (a2 k (by omega) (by omega))
    refine wk_call (kd := 0) (i := 420) xd_25dbaac8 rfl (wk_cal (as := [.inr (.inr (some 184))]) (t := []) xl_a8e7eb95 rfl xn_c55f9e10 xc_77da5405 rfl rfl xv_50854d28 rfl) (cm_C_mono (by omega) hCL) ?_
    refine wk_istore_n xd_0779f311 (by rw [xm_48b35298]; rfl) rfl ?_
    refine wk_iload_n xd_d9df730d rfl ?_
    refine wk_if xd_05282231 (t := 38) rfl (fun h => absurd (aw_ne_t ew13_4 hb_z h) (by omega)) (fun _ => ?_)
    refine wk_iload_n xd_9e23a84e rfl ?_
    refine wk_if xd_91e9efb4 (t := 38) rfl (fun h => absurd (aw_ne_t eg40_11 hb_z h) (by omega)) (fun _ => ?_)
    refine wk_iload_n xd_a3a6634b rfl ?_
    refine wk_if xd_4f86be8c (t := 38) rfl (fun h29_2 => ?_) (fun h29_2 => ?_)
    · have h29_2 := aw_ge_t (a := ((k : Int) + (-14) : Int)) (b := (0 : Int)) eL hb_z h29_2
      refine wk_aload_n xd_3f20afd1 rfl ?_
      refine wk_getI xf_4633a7bb xd_810317bd ?_
      refine wk_bipush xd_e39b8983 ?_
      refine wk_icmp xd_41784522 (t := 56) rfl (fun h44_3 => ?_) (fun h44_3 => ?_)
      · have h44_3 := aw_eq_t (a := ((o : Int) : Int)) (b := (20 : Int)) (show ((w.1 184 40)).toInt = ((o : Int) : Int) from (hM.2.2.1.trans (by omega))) (show (((Int8.ofInt 20).toInt32)).toInt = 20 from by decide) h44_3
        exfalso
        omega
      · have h44_3 := aw_eq_f (a := ((o : Int) : Int)) (b := (20 : Int)) (show ((w.1 184 40)).toInt = ((o : Int) : Int) from (hM.2.2.1.trans (by omega))) (show (((Int8.ofInt 20).toInt32)).toInt = 20 from by decide) h44_3
        refine wk_aload_n xd_7838432e rfl ?_
        refine wk_getI xf_db488d2b xd_c7df23c2 ?_
        refine wk_bipush xd_fe1716ce ?_
        refine wk_icmp xd_39ca0028 (t := 62) rfl (fun h53_4 => ?_) (fun h53_4 => ?_)
        · have h53_4 := aw_le_t (a := ((d : Int) : Int)) (b := (8 : Int)) (show ((w.1 184 42)).toInt = ((d : Int) : Int) from (hM.2.2.2.2.1.trans (by omega))) (show (((Int8.ofInt 8).toInt32)).toInt = 8 from by decide) h53_4
          refine wk_aload_n xd_3a2cc466 rfl ?_
          refine wk_dup_r xd_74bb42e5 ?_
          refine wk_getI xf_4633a7bb xd_166e7a4c ?_
          refine wk_iconst xd_174d4838 ?_
          refine aw_iadd (a := ((o : Int) : Int)) (b := (1 : Int)) (e := ((o : Int) + 1 : Int)) xd_900ab995 (show ((w.1 184 40)).toInt = ((o : Int) : Int) from (hM.2.2.1.trans (by omega))) (show ((Int32.ofInt 1)).toInt = 1 from by decide) (by omega) (by omega) (by omega) (fun v6_ p6_ => ?_)
          refine wk_putI xf_34a287e5 (fun ci => wk_fitI ci) xd_d1723e1d ?_
          refine wk_aload_n xd_bb09a141 rfl ?_
          have hMn7_0 : sr_M (cm_u1 w 184 40 v6_) T n m p ((o + 1)) (t) (d) (c) (0) := (sr_mk (o' := (o + 1)) (t' := t) (d' := d) (c' := c) (f' := 0) hM ⟨fun i => by rw [hs_u1_ne (by omega)], fun i hi => by rw [hs_u1_ne (by omega)], rfl⟩ (by have e9 : ((cm_u1 w 184 40 v6_).1 184 40).toInt = ((o : Int) + 1 : Int) := (show (((cm_u1 w 184 40 v6_).1 184 40)).toInt = ((o : Int) + 1 : Int) from p6_); omega) (by have e9 : ((cm_u1 w 184 40 v6_).1 184 41).toInt = ((t : Int) : Int) := (show (((cm_u1 w 184 40 v6_).1 184 41)).toInt = ((t : Int) : Int) from (hM.2.2.2.1.trans (by omega))); omega) (by have e9 : ((cm_u1 w 184 40 v6_).1 184 42).toInt = ((d : Int) : Int) := (show (((cm_u1 w 184 40 v6_).1 184 42)).toInt = ((d : Int) : Int) from (hM.2.2.2.2.1.trans (by omega))); omega) (by have e9 : ((cm_u1 w 184 40 v6_).1 184 39).toInt = ((c : Int) : Int) := (show (((cm_u1 w 184 40 v6_).1 184 39)).toInt = ((c : Int) : Int) from (hM.2.2.2.2.2.1.trans (by omega))); omega) (by have e9 : ((cm_u1 w 184 40 v6_).1 184 43).toInt = (0 : Int) := (show (((cm_u1 w 184 40 v6_).1 184 43)).toInt = (0 : Int) from (hM.2.2.2.2.2.2.trans (by omega))); omega))
          have hVn7_0 : sr_V w (cm_u1 w 184 40 v6_) := (sr_V_tr (sr_V_rf w) (show sr_V w (cm_u1 w 184 40 v6_) from fun k i a b c => ⟨by rw [hs_u1_ne (by omega)], rfl⟩))
          obtain ⟨wn7_, hCn7_, hSn7_, hMn7_⟩ := sr_next hMn7_0 hsz
          have hVn7_ := sr_V_tr hVn7_0 (sr_V_E (rm_E_S hSn7_))
          have hKn7_ : sr_K wn7_ s := sr_K_lt (w := w) _ (fun i _ => by rw [(hSn7_ 199 i (by omega)).1, hs_u1_ne (by omega)]) hK
          refine wk_call (kd := 0) (i := 179) xd_56092a07 rfl (wk_cal (as := [.inr (.inr (some 184))]) (t := []) xl_b037c8bc rfl xn_00af7311 xc_b2cf5bb1 rfl rfl xv_e7aa8f3d rfl) (cm_C_mono (by omega) hCn7_) ?_
          refine wk_iload_n xd_dc36fa0f rfl ?_
          refine wk_if xd_8ac39bcf (t := 84) rfl (fun h => absurd (aw_ne_t ew13_4 hb_z h) (by omega)) (fun _ => ?_)
          refine wk_iload_n xd_9549f96c rfl ?_
          refine wk_if xd_5b45533c (t := 126) rfl (fun _ => ?_) (fun h => absurd (aw_eq_f eg40_11 hb_z h) (by omega))
          refine wk_aload_n xd_8e3cde17 rfl ?_
          refine wk_iconst xd_50489dc4 ?_
          refine wk_putI xf_e791d0f4 (fun _ => aw_fb (.inr (by decide))) xd_2cb26948 ?_
          refine wk_iload_n xd_64038a23 rfl ?_
          refine wk_iconst xd_c712fa00 ?_
          refine wk_icmp xd_57308876 (t := 145) rfl (fun h133_9 => ?_) (fun h133_9 => ?_)
          · have h133_9 := aw_ge_t (a := ((k : Int) + (-14) : Int)) (b := (2 : Int)) eL (show ((Int32.ofInt 2)).toInt = 2 from by decide) h133_9
            refine wk_iload_n xd_55471cc7 rfl ?_
            refine wk_iconst xd_624a040e ?_
            refine wk_icmp xd_b750c209 (t := 201) rfl (fun h147_10 => ?_) (fun h147_10 => ?_)
            · have h147_10 := aw_ge_t (a := ((k : Int) + (-14) : Int)) (b := (4 : Int)) eL (show ((Int32.ofInt 4)).toInt = 4 from by decide) h147_10
              have hsg := rm_C_sign hMn7_.1.2.1
              refine wk_aload_n xd_14533ce5 rfl ?_
              refine wk_getI xf_5498bc9d xd_2cd68d25 ?_
              refine wk_iconst xd_b1507de5 ?_
              refine wk_icmp xd_dc6c714e (t := 227) rfl (fun h206_11 => ?_) (fun h206_11 => ?_)
              · have h206_11 := aw_ne_t (a := ((wn7_.1 184 11).toInt : Int)) (b := (3 : Int)) rfl (show ((Int32.ofInt 3)).toInt = 3 from by decide) h206_11
                refine wk_aload_n xd_20a28290 rfl ?_
                refine wk_iconst xd_d4cc2cac ?_
                have hMb : sr_M (cm_u1 wn7_ 184 43 (Int32.ofInt 1)) T n m (tx_tk T n m p).2.2.1 ((o + 1)) (t) (d) (c) (1) := (sr_mk (o' := (o + 1)) (t' := t) (d' := d) (c' := c) (f' := 1) hMn7_ ⟨fun i => by rw [hs_u1_ne (by omega)], fun i hi => by rw [hs_u1_ne (by omega)], rfl⟩ (by have e9 : ((cm_u1 wn7_ 184 43 (Int32.ofInt 1)).1 184 40).toInt = ((o : Int) + 1 : Int) := (show (((cm_u1 wn7_ 184 43 (Int32.ofInt 1)).1 184 40)).toInt = ((o : Int) + 1 : Int) from (hMn7_.2.2.1.trans (by omega))); omega) (by have e9 : ((cm_u1 wn7_ 184 43 (Int32.ofInt 1)).1 184 41).toInt = ((t : Int) : Int) := (show (((cm_u1 wn7_ 184 43 (Int32.ofInt 1)).1 184 41)).toInt = ((t : Int) : Int) from (hMn7_.2.2.2.1.trans (by omega))); omega) (by have e9 : ((cm_u1 wn7_ 184 43 (Int32.ofInt 1)).1 184 42).toInt = ((d : Int) : Int) := (show (((cm_u1 wn7_ 184 43 (Int32.ofInt 1)).1 184 42)).toInt = ((d : Int) : Int) from (hMn7_.2.2.2.2.1.trans (by omega))); omega) (by have e9 : ((cm_u1 wn7_ 184 43 (Int32.ofInt 1)).1 184 39).toInt = ((c : Int) : Int) := (show (((cm_u1 wn7_ 184 43 (Int32.ofInt 1)).1 184 39)).toInt = ((c : Int) : Int) from (hMn7_.2.2.2.2.2.1.trans (by omega))); omega) (by have e9 : ((cm_u1 wn7_ 184 43 (Int32.ofInt 1)).1 184 43).toInt = (1 : Int) := (show (((cm_u1 wn7_ 184 43 (Int32.ofInt 1)).1 184 43)).toInt = (1 : Int) from (show ((Int32.ofInt 1)).toInt = 1 from by decide)); omega))
                have hBb := rm_bB (w := (cm_u1 wn7_ 184 43 (Int32.ofInt 1))) (k := (Int32.ofInt 1)) (c := 1) (by decide) hMb.1.2.1.1
                have hVb : sr_V w (cm_u1 (cm_u1 (cm_u1 wn7_ 184 43 (Int32.ofInt 1)) 184 15 (Int32.ofInt 1)) 184 16 ((cm_u1 (cm_u1 wn7_ 184 43 (Int32.ofInt 1)) 184 15 (Int32.ofInt 1)).1 184 12)) := sr_V_tr (sr_V_tr hVn7_ (show sr_V wn7_ (cm_u1 wn7_ 184 43 (Int32.ofInt 1)) from fun k i a b c => ⟨by rw [hs_u1_ne (by omega)], rfl⟩)) (sr_V_E (rm_E_B hBb))
                refine wk_call (kd := 0) (i := 176) xd_6a3ec3c6 rfl (wk_cal (as := [.inr (.inr (some 184)), .inl (Int32.ofInt 1)]) (t := []) xl_f124abec rfl xn_f63023b8 xc_1907b494 rfl rfl xv_a1095a1b rfl) (cm_C_mono (by omega) (mb_ok (w := (cm_u1 wn7_ 184 43 (Int32.ofInt 1))) (k := (Int32.ofInt 1)))) ?_
                exact wk_ireturn xd_a7c7e263 xr_d37bfb88 wk_z0 ⟨_, _, rfl, hVb, .inr ⟨_, _, sp_cmp_1 (by omega), by decide, (cr_B_B hBb)⟩⟩
              · have h206_11 := aw_ne_f (a := ((wn7_.1 184 11).toInt : Int)) (b := (3 : Int)) rfl (show ((Int32.ofInt 3)).toInt = 3 from by decide) h206_11
                refine wk_aload_n xd_14ea7fc3 rfl ?_
                refine wk_getI xf_5837aabb xd_d184afa5 ?_
                refine wk_bipush xd_e3fd49d7 ?_
                refine wk_icmp xd_e266be00 (t := 227) rfl (fun h215_12 => ?_) (fun h215_12 => ?_)
                · have h215_12 := aw_lt_t (a := ((wn7_.1 184 14).toInt : Int)) (b := (60 : Int)) rfl (show (((Int8.ofInt 60).toInt32)).toInt = 60 from by decide) h215_12
                  refine wk_aload_n xd_20a28290 rfl ?_
                  refine wk_iconst xd_d4cc2cac ?_
                  have hMb : sr_M (cm_u1 wn7_ 184 43 (Int32.ofInt 1)) T n m (tx_tk T n m p).2.2.1 ((o + 1)) (t) (d) (c) (1) := (sr_mk (o' := (o + 1)) (t' := t) (d' := d) (c' := c) (f' := 1) hMn7_ ⟨fun i => by rw [hs_u1_ne (by omega)], fun i hi => by rw [hs_u1_ne (by omega)], rfl⟩ (by have e9 : ((cm_u1 wn7_ 184 43 (Int32.ofInt 1)).1 184 40).toInt = ((o : Int) + 1 : Int) := (show (((cm_u1 wn7_ 184 43 (Int32.ofInt 1)).1 184 40)).toInt = ((o : Int) + 1 : Int) from (hMn7_.2.2.1.trans (by omega))); omega) (by have e9 : ((cm_u1 wn7_ 184 43 (Int32.ofInt 1)).1 184 41).toInt = ((t : Int) : Int) := (show (((cm_u1 wn7_ 184 43 (Int32.ofInt 1)).1 184 41)).toInt = ((t : Int) : Int) from (hMn7_.2.2.2.1.trans (by omega))); omega) (by have e9 : ((cm_u1 wn7_ 184 43 (Int32.ofInt 1)).1 184 42).toInt = ((d : Int) : Int) := (show (((cm_u1 wn7_ 184 43 (Int32.ofInt 1)).1 184 42)).toInt = ((d : Int) : Int) from (hMn7_.2.2.2.2.1.trans (by omega))); omega) (by have e9 : ((cm_u1 wn7_ 184 43 (Int32.ofInt 1)).1 184 39).toInt = ((c : Int) : Int) := (show (((cm_u1 wn7_ 184 43 (Int32.ofInt 1)).1 184 39)).toInt = ((c : Int) : Int) from (hMn7_.2.2.2.2.2.1.trans (by omega))); omega) (by have e9 : ((cm_u1 wn7_ 184 43 (Int32.ofInt 1)).1 184 43).toInt = (1 : Int) := (show (((cm_u1 wn7_ 184 43 (Int32.ofInt 1)).1 184 43)).toInt = (1 : Int) from (show ((Int32.ofInt 1)).toInt = 1 from by decide)); omega))
                  have hBb := rm_bB (w := (cm_u1 wn7_ 184 43 (Int32.ofInt 1))) (k := (Int32.ofInt 1)) (c := 1) (by decide) hMb.1.2.1.1
                  have hVb : sr_V w (cm_u1 (cm_u1 (cm_u1 wn7_ 184 43 (Int32.ofInt 1)) 184 15 (Int32.ofInt 1)) 184 16 ((cm_u1 (cm_u1 wn7_ 184 43 (Int32.ofInt 1)) 184 15 (Int32.ofInt 1)).1 184 12)) := sr_V_tr (sr_V_tr hVn7_ (show sr_V wn7_ (cm_u1 wn7_ 184 43 (Int32.ofInt 1)) from fun k i a b c => ⟨by rw [hs_u1_ne (by omega)], rfl⟩)) (sr_V_E (rm_E_B hBb))
                  refine wk_call (kd := 0) (i := 176) xd_6a3ec3c6 rfl (wk_cal (as := [.inr (.inr (some 184)), .inl (Int32.ofInt 1)]) (t := []) xl_f124abec rfl xn_f63023b8 xc_1907b494 rfl rfl xv_a1095a1b rfl) (cm_C_mono (by omega) (mb_ok (w := (cm_u1 wn7_ 184 43 (Int32.ofInt 1))) (k := (Int32.ofInt 1)))) ?_
                  exact wk_ireturn xd_a7c7e263 xr_d37bfb88 wk_z0 ⟨_, _, rfl, hVb, .inr ⟨_, _, sp_cmp_1 (by omega), by decide, (cr_B_B hBb)⟩⟩
                · have h215_12 := aw_lt_f (a := ((wn7_.1 184 14).toInt : Int)) (b := (60 : Int)) rfl (show (((Int8.ofInt 60).toInt32)).toInt = 60 from by decide) h215_12
                  refine wk_aload_n xd_0ebcf030 rfl ?_
                  refine wk_getI xf_5837aabb xd_63b0248e ?_
                  refine wk_bipush xd_5a50594b ?_
                  refine wk_icmp xd_6974c53b (t := 233) rfl (fun h224_13 => ?_) (fun h224_13 => ?_)
                  · have h224_13 := aw_le_t (a := ((wn7_.1 184 14).toInt : Int)) (b := (62 : Int)) rfl (show (((Int8.ofInt 62).toInt32)).toInt = 62 from by decide) h224_13
                    refine wk_aload_n xd_a1db4624 rfl ?_
                    refine wk_getI xf_5837aabb xd_26080ff9 ?_
                    refine wk_istore xd_1b283ff8 (by rw [xm_48b35298]; rfl) rfl ?_
                    refine wk_aload_n xd_4cf4d6eb rfl ?_
                    have hMn15_0 : sr_M (cm_u1 wn7_ 184 43 (Int32.ofInt 1)) T n m (tx_tk T n m p).2.2.1 ((o + 1)) (t) (d) (c) (1) := (sr_mk (o' := (o + 1)) (t' := t) (d' := d) (c' := c) (f' := 1) hMn7_ ⟨fun i => by rw [hs_u1_ne (by omega)], fun i hi => by rw [hs_u1_ne (by omega)], rfl⟩ (by have e9 : ((cm_u1 wn7_ 184 43 (Int32.ofInt 1)).1 184 40).toInt = ((o : Int) + 1 : Int) := (show (((cm_u1 wn7_ 184 43 (Int32.ofInt 1)).1 184 40)).toInt = ((o : Int) + 1 : Int) from (hMn7_.2.2.1.trans (by omega))); omega) (by have e9 : ((cm_u1 wn7_ 184 43 (Int32.ofInt 1)).1 184 41).toInt = ((t : Int) : Int) := (show (((cm_u1 wn7_ 184 43 (Int32.ofInt 1)).1 184 41)).toInt = ((t : Int) : Int) from (hMn7_.2.2.2.1.trans (by omega))); omega) (by have e9 : ((cm_u1 wn7_ 184 43 (Int32.ofInt 1)).1 184 42).toInt = ((d : Int) : Int) := (show (((cm_u1 wn7_ 184 43 (Int32.ofInt 1)).1 184 42)).toInt = ((d : Int) : Int) from (hMn7_.2.2.2.2.1.trans (by omega))); omega) (by have e9 : ((cm_u1 wn7_ 184 43 (Int32.ofInt 1)).1 184 39).toInt = ((c : Int) : Int) := (show (((cm_u1 wn7_ 184 43 (Int32.ofInt 1)).1 184 39)).toInt = ((c : Int) : Int) from (hMn7_.2.2.2.2.2.1.trans (by omega))); omega) (by have e9 : ((cm_u1 wn7_ 184 43 (Int32.ofInt 1)).1 184 43).toInt = (1 : Int) := (show (((cm_u1 wn7_ 184 43 (Int32.ofInt 1)).1 184 43)).toInt = (1 : Int) from (show ((Int32.ofInt 1)).toInt = 1 from by decide)); omega))
                    have hVn15_0 : sr_V w (cm_u1 wn7_ 184 43 (Int32.ofInt 1)) := (sr_V_tr hVn7_ (show sr_V wn7_ (cm_u1 wn7_ 184 43 (Int32.ofInt 1)) from fun k i a b c => ⟨by rw [hs_u1_ne (by omega)], rfl⟩))
                    obtain ⟨wn15_, hCn15_, hSn15_, hMn15_⟩ := sr_next hMn15_0 ⟨by omega, by omega⟩
                    have hVn15_ := sr_V_tr hVn15_0 (sr_V_E (rm_E_S hSn15_))
                    have hKn15_ : sr_K wn15_ s := sr_K_lt (w := wn7_) _ (fun i _ => by rw [(hSn15_ 199 i (by omega)).1, hs_u1_ne (by omega)]) hKn7_
                    refine wk_call (kd := 0) (i := 179) xd_d8f9ed71 rfl (wk_cal (as := [.inr (.inr (some 184))]) (t := []) xl_b037c8bc rfl xn_00af7311 xc_b2cf5bb1 rfl rfl xv_e7aa8f3d rfl) (cm_C_mono (by omega) hCn15_) ?_
                    have hnu := rm_C_num hMn15_.1.2.1
                    have hnum9 := hMn15_.1.2.1
                    refine wk_aload_n xd_90c37153 rfl ?_
                    refine wk_getI xf_5498bc9d xd_72493bd1 ?_
                    refine wk_iconst xd_a23c3c46 ?_
                    refine wk_icmp xd_43d5d54c (t := 257) rfl (fun h248_15 => ?_) (fun h248_15 => ?_)
                    · have h248_15 := aw_eq_t (a := ((wn15_.1 184 11).toInt : Int)) (b := (2 : Int)) rfl (show ((Int32.ofInt 2)).toInt = 2 from by decide) h248_15
                      refine wk_aload_n xd_11bab5e7 rfl ?_
                      refine wk_iload_n xd_7a19c7d2 rfl ?_
                      refine wk_iload xd_caa98dd3 rfl ?_
                      refine wk_aload_n xd_a46e6eb5 rfl ?_
                      refine wk_getI xf_5837aabb xd_161ba24c ?_
                      obtain ⟨wc, hCc, fc1, fc2, fc3⟩ := sr_code (w := wn15_) (va := xL) (vb := ((cm_u1 wn7_ 184 43 (Int32.ofInt 1)).1 184 14)) (vd := (wn15_.1 184 14)) (c := c) ((show ((wn15_.1 184 39)).toInt = ((c : Int) : Int) from (hMn15_.2.2.2.2.2.1.trans (by omega)))) (by omega)
                      have hMp : sr_M wn15_ T n m (tx_tk T n m (tx_tk T n m p).2.2.1).2.2.1 ((o + 1)) (t) (d) (c) (1) := hMn15_
                      have hMc : sr_M wc T n m (tx_tk T n m (tx_tk T n m p).2.2.1).2.2.1 ((o + 1)) (t) (d) (c + 1) (1) := sr_mk hMp ⟨fun i => fc1 185 i (by omega) (by omega), fun i hi => fc1 184 i (by omega) (by omega), fc2⟩ (by rw [fc1 184 40 (by omega) (by omega)]; exact hMp.2.2.1) (by rw [fc1 184 41 (by omega) (by omega)]; exact hMp.2.2.2.1) (by rw [fc1 184 42 (by omega) (by omega)]; exact hMp.2.2.2.2.1) fc3 (by rw [fc1 184 43 (by omega) (by omega)]; exact hMp.2.2.2.2.2.2)
                      have hVc : sr_V w wc := sr_V_tr hVn15_ (fun k i a b c => ⟨fc1 k i (by omega) b, by rw [fc2]⟩)
                      have hKc : sr_K wc s := sr_K_lt (w := wn15_) _ (fun i _ => by rw [fc1 199 i (by omega) (by omega)]) hKn15_
                      refine wk_call (kd := 0) (i := 413) xd_1b957fea rfl (wk_cal (as := [.inr (.inr (some 184)), .inl xL, .inl ((cm_u1 wn7_ 184 43 (Int32.ofInt 1)).1 184 14), .inl (wn15_.1 184 14)]) (t := []) xl_c3f3b8fa rfl xn_2844c07f xc_82edc90f rfl rfl xv_6dbeb463 rfl) (cm_C_mono (by omega) hCc) ?_
                      refine wk_aload_n xd_3fa4c747 rfl ?_
                      have hMn17_0 : sr_M wc T n m (tx_tk T n m (tx_tk T n m p).2.2.1).2.2.1 ((o + 1)) (t) (d) ((c + 1)) (1) := hMc
                      have hVn17_0 : sr_V w wc := hVc
                      obtain ⟨wn17_, hCn17_, hSn17_, hMn17_⟩ := sr_next hMn17_0 ⟨by omega, by omega⟩
                      have hVn17_ := sr_V_tr hVn17_0 (sr_V_E (rm_E_S hSn17_))
                      have hKn17_ : sr_K wn17_ s := sr_K_lt (w := wc) _ (fun i _ => by rw [(hSn17_ 199 i (by omega)).1]) hKc
                      refine wk_call (kd := 0) (i := 179) xd_99e44e3d rfl (wk_cal (as := [.inr (.inr (some 184))]) (t := []) xl_b037c8bc rfl xn_00af7311 xc_b2cf5bb1 rfl rfl xv_e7aa8f3d rfl) (cm_C_mono (by omega) hCn17_) ?_
                      refine wk_iconst xd_d8f0886b ?_
                      exact wk_ireturn xd_64bcf2fd xr_d37bfb88 wk_z1 ⟨_, _, rfl, hVn17_, .inl ⟨_, sp_cmp_y (by omega) (by omega) (rm_C_num9 hnum9 (by omega)), by decide, hMn17_, hKn17_⟩⟩
                    · have h248_15 := aw_eq_f (a := ((wn15_.1 184 11).toInt : Int)) (b := (2 : Int)) rfl (show ((Int32.ofInt 2)).toInt = 2 from by decide) h248_15
                      refine wk_aload_n xd_fc70c79d rfl ?_
                      refine wk_iconst xd_35665b82 ?_
                      have hMb : sr_M wn15_ T n m (tx_tk T n m (tx_tk T n m p).2.2.1).2.2.1 ((o + 1)) (t) (d) (c) (1) := hMn15_
                      have hBb := rm_bB (w := wn15_) (k := (Int32.ofInt 1)) (c := 1) (by decide) hMb.1.2.1.1
                      have hVb : sr_V w (cm_u1 (cm_u1 wn15_ 184 15 (Int32.ofInt 1)) 184 16 ((cm_u1 wn15_ 184 15 (Int32.ofInt 1)).1 184 12)) := sr_V_tr hVn15_ (sr_V_E (rm_E_B hBb))
                      refine wk_call (kd := 0) (i := 176) xd_b85b4679 rfl (wk_cal (as := [.inr (.inr (some 184)), .inl (Int32.ofInt 1)]) (t := []) xl_f124abec rfl xn_f63023b8 xc_1907b494 rfl rfl xv_a1095a1b rfl) (cm_C_mono (by omega) (mb_ok (w := wn15_) (k := (Int32.ofInt 1)))) ?_
                      exact wk_ireturn xd_c7cfbc58 xr_d37bfb88 wk_z0 ⟨_, _, rfl, hVb, .inr ⟨_, _, sp_cmp_2 (by omega) (by omega), by decide, (cr_B_B hBb)⟩⟩
                  · have h224_13 := aw_le_f (a := ((wn7_.1 184 14).toInt : Int)) (b := (62 : Int)) rfl (show (((Int8.ofInt 62).toInt32)).toInt = 62 from by decide) h224_13
                    refine wk_aload_n xd_20a28290 rfl ?_
                    refine wk_iconst xd_d4cc2cac ?_
                    have hMb : sr_M (cm_u1 wn7_ 184 43 (Int32.ofInt 1)) T n m (tx_tk T n m p).2.2.1 ((o + 1)) (t) (d) (c) (1) := (sr_mk (o' := (o + 1)) (t' := t) (d' := d) (c' := c) (f' := 1) hMn7_ ⟨fun i => by rw [hs_u1_ne (by omega)], fun i hi => by rw [hs_u1_ne (by omega)], rfl⟩ (by have e9 : ((cm_u1 wn7_ 184 43 (Int32.ofInt 1)).1 184 40).toInt = ((o : Int) + 1 : Int) := (show (((cm_u1 wn7_ 184 43 (Int32.ofInt 1)).1 184 40)).toInt = ((o : Int) + 1 : Int) from (hMn7_.2.2.1.trans (by omega))); omega) (by have e9 : ((cm_u1 wn7_ 184 43 (Int32.ofInt 1)).1 184 41).toInt = ((t : Int) : Int) := (show (((cm_u1 wn7_ 184 43 (Int32.ofInt 1)).1 184 41)).toInt = ((t : Int) : Int) from (hMn7_.2.2.2.1.trans (by omega))); omega) (by have e9 : ((cm_u1 wn7_ 184 43 (Int32.ofInt 1)).1 184 42).toInt = ((d : Int) : Int) := (show (((cm_u1 wn7_ 184 43 (Int32.ofInt 1)).1 184 42)).toInt = ((d : Int) : Int) from (hMn7_.2.2.2.2.1.trans (by omega))); omega) (by have e9 : ((cm_u1 wn7_ 184 43 (Int32.ofInt 1)).1 184 39).toInt = ((c : Int) : Int) := (show (((cm_u1 wn7_ 184 43 (Int32.ofInt 1)).1 184 39)).toInt = ((c : Int) : Int) from (hMn7_.2.2.2.2.2.1.trans (by omega))); omega) (by have e9 : ((cm_u1 wn7_ 184 43 (Int32.ofInt 1)).1 184 43).toInt = (1 : Int) := (show (((cm_u1 wn7_ 184 43 (Int32.ofInt 1)).1 184 43)).toInt = (1 : Int) from (show ((Int32.ofInt 1)).toInt = 1 from by decide)); omega))
                    have hBb := rm_bB (w := (cm_u1 wn7_ 184 43 (Int32.ofInt 1))) (k := (Int32.ofInt 1)) (c := 1) (by decide) hMb.1.2.1.1
                    have hVb : sr_V w (cm_u1 (cm_u1 (cm_u1 wn7_ 184 43 (Int32.ofInt 1)) 184 15 (Int32.ofInt 1)) 184 16 ((cm_u1 (cm_u1 wn7_ 184 43 (Int32.ofInt 1)) 184 15 (Int32.ofInt 1)).1 184 12)) := sr_V_tr (sr_V_tr hVn7_ (show sr_V wn7_ (cm_u1 wn7_ 184 43 (Int32.ofInt 1)) from fun k i a b c => ⟨by rw [hs_u1_ne (by omega)], rfl⟩)) (sr_V_E (rm_E_B hBb))
                    refine wk_call (kd := 0) (i := 176) xd_6a3ec3c6 rfl (wk_cal (as := [.inr (.inr (some 184)), .inl (Int32.ofInt 1)]) (t := []) xl_f124abec rfl xn_f63023b8 xc_1907b494 rfl rfl xv_a1095a1b rfl) (cm_C_mono (by omega) (mb_ok (w := (cm_u1 wn7_ 184 43 (Int32.ofInt 1))) (k := (Int32.ofInt 1)))) ?_
                    exact wk_ireturn xd_a7c7e263 xr_d37bfb88 wk_z0 ⟨_, _, rfl, hVb, .inr ⟨_, _, sp_cmp_1 (by omega), by decide, (cr_B_B hBb)⟩⟩
            · have h147_10 := aw_ge_f (a := ((k : Int) + (-14) : Int)) (b := (4 : Int)) eL (show ((Int32.ofInt 4)).toInt = 4 from by decide) h147_10
              exfalso
              omega
          · have h133_9 := aw_ge_f (a := ((k : Int) + (-14) : Int)) (b := (2 : Int)) eL (show ((Int32.ofInt 2)).toInt = 2 from by decide) h133_9
            exfalso
            omega
        · have h53_4 := aw_le_f (a := ((d : Int) : Int)) (b := (8 : Int)) (show ((w.1 184 42)).toInt = ((d : Int) : Int) from (hM.2.2.2.2.1.trans (by omega))) (show (((Int8.ofInt 8).toInt32)).toInt = 8 from by decide) h53_4
          exfalso
          omega
    · have h29_2 := aw_ge_f (a := ((k : Int) + (-14) : Int)) (b := (0 : Int)) eL hb_z h29_2
      exfalso
      omega
  obtain ⟨oo, hC, x, w', rfl, a⟩ := h9
  exact ⟨x, w', hC, a⟩

set_option maxRecDepth 100000 in
theorem xm_eb0bf0ae : ia_maxL 268 = 1 := by decide +kernel
set_option maxRecDepth 100000 in
theorem xd_89564bbb : decode (ia_code 268) 0 = .ok (.iload_n 0, 1) := fdd_d (by decide +kernel)
set_option maxRecDepth 100000 in
theorem xd_904ddf3b : decode (ia_code 268) 1 = .ok (.bipush 97, 2) := fdd_d (by decide +kernel)
set_option maxRecDepth 100000 in
theorem xd_1cb6ccf8 : decode (ia_code 268) 3 = .ok (.if_icmp .lt 13, 3) := fdd_d (by decide +kernel)
set_option maxRecDepth 100000 in
theorem xd_391251a7 : decode (ia_code 268) 16 = .ok (.iconst 0, 1) := fdd_d (by decide +kernel)
set_option maxRecDepth 100000 in
theorem xd_304141d3 : decode (ia_code 268) 17 = .ok (.ireturn, 1) := fdd_d (by decide +kernel)
set_option maxRecDepth 100000 in
theorem xr_01cf7497 : ia_ret 268 = some .boolean := by decide +kernel
set_option maxRecDepth 100000 in
theorem xd_649c39c1 : decode (ia_code 268) 6 = .ok (.iload_n 0, 1) := fdd_d (by decide +kernel)
set_option maxRecDepth 100000 in
theorem xd_d1a67441 : decode (ia_code 268) 7 = .ok (.bipush 122, 2) := fdd_d (by decide +kernel)
set_option maxRecDepth 100000 in
theorem xd_859ae5e5 : decode (ia_code 268) 9 = .ok (.if_icmp .gt 7, 3) := fdd_d (by decide +kernel)
set_option maxRecDepth 100000 in
theorem xd_58d3eb17 : decode (ia_code 268) 12 = .ok (.iconst 1, 1) := fdd_d (by decide +kernel)
set_option maxRecDepth 100000 in
theorem xd_e2c34916 : decode (ia_code 268) 13 = .ok (.goto 4, 3) := fdd_d (by decide +kernel)
set_option maxRecDepth 100000 in
theorem xm_6d9f8200 : ia_maxL 258 = 1 := by decide +kernel
set_option maxRecDepth 100000 in
theorem xd_3ac26678 : decode (ia_code 258) 0 = .ok (.iload_n 0, 1) := fdd_d (by decide +kernel)
set_option maxRecDepth 100000 in
theorem xd_1d1776f7 : decode (ia_code 258) 1 = .ok (.bipush 48, 2) := fdd_d (by decide +kernel)
set_option maxRecDepth 100000 in
theorem xd_d5a9c447 : decode (ia_code 258) 3 = .ok (.if_icmp .lt 13, 3) := fdd_d (by decide +kernel)
set_option maxRecDepth 100000 in
theorem xd_8a867c64 : decode (ia_code 258) 16 = .ok (.iconst 0, 1) := fdd_d (by decide +kernel)
set_option maxRecDepth 100000 in
theorem xd_c216ac2b : decode (ia_code 258) 17 = .ok (.ireturn, 1) := fdd_d (by decide +kernel)
set_option maxRecDepth 100000 in
theorem xr_eb49a9f5 : ia_ret 258 = some .boolean := by decide +kernel
set_option maxRecDepth 100000 in
theorem xd_d7081402 : decode (ia_code 258) 6 = .ok (.iload_n 0, 1) := fdd_d (by decide +kernel)
set_option maxRecDepth 100000 in
theorem xd_b9d140f9 : decode (ia_code 258) 7 = .ok (.bipush 57, 2) := fdd_d (by decide +kernel)
set_option maxRecDepth 100000 in
theorem xd_96b2dc96 : decode (ia_code 258) 9 = .ok (.if_icmp .gt 7, 3) := fdd_d (by decide +kernel)
set_option maxRecDepth 100000 in
theorem xd_eb47c6d4 : decode (ia_code 258) 12 = .ok (.iconst 1, 1) := fdd_d (by decide +kernel)
set_option maxRecDepth 100000 in
theorem xd_d72eff45 : decode (ia_code 258) 13 = .ok (.goto 4, 3) := fdd_d (by decide +kernel)
set_option maxRecDepth 100000 in
theorem xm_351ec5e1 : ia_maxL 136 = 1 := by decide +kernel
set_option maxRecDepth 100000 in
theorem xd_b4b11ff8 : decode (ia_code 136) 0 = .ok (.aload_n 0, 1) := fdd_d (by decide +kernel)
set_option maxRecDepth 100000 in
theorem xd_315838a5 : decode (ia_code 136) 1 = .ok (.getfield 21, 3) := fdd_d (by decide +kernel)
set_option maxRecDepth 100000 in
theorem xf_c1bf163d : wk_gf 136 21 184 4 0 = true := by decide +kernel
set_option maxRecDepth 100000 in
theorem xd_b4edbe6b : decode (ia_code 136) 4 = .ok (.aload_n 0, 1) := fdd_d (by decide +kernel)
set_option maxRecDepth 100000 in
theorem xd_41616281 : decode (ia_code 136) 5 = .ok (.getfield 18, 3) := fdd_d (by decide +kernel)
set_option maxRecDepth 100000 in
theorem xf_ad82581e : wk_gf 136 18 184 3 0 = true := by decide +kernel
set_option maxRecDepth 100000 in
theorem xd_e11b0e05 : decode (ia_code 136) 8 = .ok (.if_icmp .ge 19, 3) := fdd_d (by decide +kernel)
set_option maxRecDepth 100000 in
theorem xd_df8ab45e : decode (ia_code 136) 27 = .ok (.iconst (-1), 1) := fdd_d (by decide +kernel)
set_option maxRecDepth 100000 in
theorem xd_7ce18126 : decode (ia_code 136) 28 = .ok (.ireturn, 1) := fdd_d (by decide +kernel)
set_option maxRecDepth 100000 in
theorem xr_b76db3c6 : ia_ret 136 = some .int := by decide +kernel
set_option maxRecDepth 100000 in
theorem xd_a0c9fcae : decode (ia_code 136) 11 = .ok (.aload_n 0, 1) := fdd_d (by decide +kernel)
set_option maxRecDepth 100000 in
theorem xd_3aa8be4e : decode (ia_code 136) 12 = .ok (.getfield 14, 3) := fdd_d (by decide +kernel)
set_option maxRecDepth 100000 in
theorem xf_d2fdfdc1 : wk_gf 136 14 184 1 (185 + 3) = true := by decide +kernel
set_option maxRecDepth 100000 in
theorem xd_a0955d3d : decode (ia_code 136) 15 = .ok (.aload_n 0, 1) := fdd_d (by decide +kernel)
set_option maxRecDepth 100000 in
theorem xd_8f61096b : decode (ia_code 136) 16 = .ok (.getfield 21, 3) := fdd_d (by decide +kernel)
set_option maxRecDepth 100000 in
theorem xf_4af44f64 : wk_ar 185 52 940 = true := by decide +kernel
set_option maxRecDepth 100000 in
theorem xd_3413fe03 : decode (ia_code 136) 19 = .ok (.baload, 1) := fdd_d (by decide +kernel)
set_option maxRecDepth 100000 in
theorem xd_76b0ef46 : decode (ia_code 136) 20 = .ok (.sipush 255, 3) := fdd_d (by decide +kernel)
set_option maxRecDepth 100000 in
theorem xd_0b7e2dff : decode (ia_code 136) 23 = .ok (.iand, 1) := fdd_d (by decide +kernel)
set_option maxRecDepth 100000 in
theorem xd_b6c83485 : decode (ia_code 136) 24 = .ok (.goto 4, 3) := fdd_d (by decide +kernel)
/-! ## the reference's reader (wip/p4/gen9vd.py) -/
/-- a text that lies on the reference's tape -/
def rm_T (w : cm_W) (T : Nat → Int) (n m : Nat) : Prop := (∀ j, j < 940 → (w.1 185 j &&& ((Int16.ofInt 255).toInt32)).toInt = T j) ∧ (∀ j, 0 ≤ T j ∧ T j ≤ 255) ∧ (w.1 184 3).toInt = n ∧ (w.1 184 5).toInt = m ∧ n ≤ 940 ∧ m ≤ 940 ∧ (∀ k, k < 22 → w.2 190 k = Int64.ofNat (tx_F (tx_rw.getD k 0)))
/-- only the reader's own places have changed -/
def rm_S (w w' : cm_W) : Prop := ∀ k i, ¬ (k = 184 ∧ (i = 4 ∨ i = 11 ∨ i = 12 ∨ i = 13 ∨ i = 14 ∨ i = 17)) → w'.1 k i = w.1 k i ∧ w'.2 k i = w.2 k i
theorem rm_S_rf (w : cm_W) : rm_S w w := fun _ _ _ => ⟨rfl, rfl⟩
theorem rm_S_tr {w w1 w2 : cm_W} (h1 : rm_S w w1) (h2 : rm_S w1 w2) : rm_S w w2 := fun k i h => ⟨(h2 k i h).1.trans (h1 k i h).1, (h2 k i h).2.trans (h1 k i h).2⟩
theorem rm_S_u1 {w w1 : cm_W} {i : Nat} {x : Int32} (h : rm_S w w1) (h1 : i = 4 ∨ i = 11 ∨ i = 12 ∨ i = 13 ∨ i = 14 ∨ i = 17) : rm_S w (cm_u1 w1 184 i x) := fun k j hk => ⟨(hs_u1_ne (by omega)).trans (h k j hk).1, (h k j hk).2⟩
theorem rm_S_u2 {w w1 : cm_W} {i : Nat} {x : Int64} (h : rm_S w w1) (h1 : i = 4 ∨ i = 11 ∨ i = 12 ∨ i = 13 ∨ i = 14 ∨ i = 17) : rm_S w (cm_u2 w1 184 i x) := fun k j hk => ⟨(h k j hk).1, (tx_u2_ne (by omega)).trans (h k j hk).2⟩
theorem rm_T_S {w w' : cm_W} {T : Nat → Int} {n m : Nat} (h : rm_T w T n m) (hS : rm_S w w') : rm_T w' T n m := ⟨fun j hj => by rw [(hS 185 j (by omega)).1]; exact h.1 j hj, h.2.1, by rw [(hS 184 3 (by omega)).1]; exact h.2.2.1, by rw [(hS 184 5 (by omega)).1]; exact h.2.2.2.1, h.2.2.2.2.1, h.2.2.2.2.2.1, fun k hk => by rw [(hS 190 k (by omega)).2]; exact h.2.2.2.2.2.2 k hk⟩
/-- what the reference holds of a token -/
def rm_C (w : cm_W) (t : Nat × Nat × Nat × Int × Nat) : Prop := (w.1 184 12).toInt = t.2.1 ∧ (w.1 184 11).toInt = t.1 ∧ (t.1 = 0 ∨ (t.1 = 1 ∧ (w.1 184 4).toInt = t.2.2.1 ∧ w.2 184 17 = Int64.ofNat (tx_F t.2.2.2.2) ∧ t.2.2.2.2 < 32 ^ 7) ∨ (t.1 = 2 ∧ (w.1 184 4).toInt = t.2.2.1 ∧ (w.1 184 14).toInt = t.2.2.2.1 ∧ 0 ≤ t.2.2.2.1 ∧ t.2.2.2.1 ≤ 999) ∨ (t.1 = 3 ∧ (w.1 184 4).toInt = t.2.2.1 ∧ (w.1 184 14).toInt = t.2.2.2.1) ∨ t.1 = 4)
/-- the byte at q, or -1 behind the text -/
def rm_b (T : Nat → Int) (n q : Nat) : Int := if q < n then T q else -1
theorem ms_ok {w : cm_W} {v : Int32} {c : Int} (hv : v.toInt = c) : ∃ x, cm_C 1 268 [.inl v] w (some (.inl x), w) ∧ ((x.toInt = 1 ∧ tx_Sm c) ∨ (x.toInt = 0 ∧ ¬ tx_Sm c)) := by
  have h : ∃ o, cm_C (0 + 1) 268 [.inl v] w o ∧ (fun o : cm_O => ∃ x, o = (some (.inl x), w) ∧ ((x.toInt = 1 ∧ tx_Sm c) ∨ (x.toInt = 0 ∧ ¬ tx_Sm c))) o := by
    refine wk_entry (by rw [xm_eb0bf0ae]; exact Nat.le_of_ble_eq_true rfl) ?_
    rw [show cm_ent 268 [.inl v] = [some (.inl v)] from by unfold cm_ent; rw [xm_eb0bf0ae]; rfl]
    refine wk_iload_n xd_89564bbb rfl ?_
    refine wk_bipush xd_904ddf3b ?_
    refine wk_icmp xd_1cb6ccf8 (t := 16) rfl (fun h3_0 => ?_) (fun h3_0 => ?_)
    · have h3_0 := aw_lt_t (a := (c : Int)) (b := (97 : Int)) hv (show (((Int8.ofInt 97).toInt32)).toInt = 97 from by decide) h3_0
      refine wk_iconst xd_391251a7 ?_
      exact wk_ireturn xd_304141d3 xr_01cf7497 wk_z0 ⟨_, rfl, .inr ⟨by decide, fun h => by omega⟩⟩
    · have h3_0 := aw_lt_f (a := (c : Int)) (b := (97 : Int)) hv (show (((Int8.ofInt 97).toInt32)).toInt = 97 from by decide) h3_0
      refine wk_iload_n xd_649c39c1 rfl ?_
      refine wk_bipush xd_d1a67441 ?_
      refine wk_icmp xd_859ae5e5 (t := 16) rfl (fun h9_1 => ?_) (fun h9_1 => ?_)
      · have h9_1 := aw_gt_t (a := (c : Int)) (b := (122 : Int)) hv (show (((Int8.ofInt 122).toInt32)).toInt = 122 from by decide) h9_1
        refine wk_iconst xd_391251a7 ?_
        exact wk_ireturn xd_304141d3 xr_01cf7497 wk_z0 ⟨_, rfl, .inr ⟨by decide, fun h => by omega⟩⟩
      · have h9_1 := aw_gt_f (a := (c : Int)) (b := (122 : Int)) hv (show (((Int8.ofInt 122).toInt32)).toInt = 122 from by decide) h9_1
        refine wk_iconst xd_58d3eb17 ?_
        refine wk_goto xd_e2c34916 (t := 17) rfl ?_
        exact wk_ireturn xd_304141d3 xr_01cf7497 wk_z1 ⟨_, rfl, .inl ⟨by decide, by omega, by omega⟩⟩
  obtain ⟨o, hC, x, rfl, a⟩ := h
  exact ⟨x, hC, a⟩
theorem md_ok {w : cm_W} {v : Int32} {c : Int} (hv : v.toInt = c) : ∃ x, cm_C 1 258 [.inl v] w (some (.inl x), w) ∧ ((x.toInt = 1 ∧ tx_Dg c) ∨ (x.toInt = 0 ∧ ¬ tx_Dg c)) := by
  have h : ∃ o, cm_C (0 + 1) 258 [.inl v] w o ∧ (fun o : cm_O => ∃ x, o = (some (.inl x), w) ∧ ((x.toInt = 1 ∧ tx_Dg c) ∨ (x.toInt = 0 ∧ ¬ tx_Dg c))) o := by
    refine wk_entry (by rw [xm_6d9f8200]; exact Nat.le_of_ble_eq_true rfl) ?_
    rw [show cm_ent 258 [.inl v] = [some (.inl v)] from by unfold cm_ent; rw [xm_6d9f8200]; rfl]
    refine wk_iload_n xd_3ac26678 rfl ?_
    refine wk_bipush xd_1d1776f7 ?_
    refine wk_icmp xd_d5a9c447 (t := 16) rfl (fun h3_0 => ?_) (fun h3_0 => ?_)
    · have h3_0 := aw_lt_t (a := (c : Int)) (b := (48 : Int)) hv (show (((Int8.ofInt 48).toInt32)).toInt = 48 from by decide) h3_0
      refine wk_iconst xd_8a867c64 ?_
      exact wk_ireturn xd_c216ac2b xr_eb49a9f5 wk_z0 ⟨_, rfl, .inr ⟨by decide, fun h => by omega⟩⟩
    · have h3_0 := aw_lt_f (a := (c : Int)) (b := (48 : Int)) hv (show (((Int8.ofInt 48).toInt32)).toInt = 48 from by decide) h3_0
      refine wk_iload_n xd_d7081402 rfl ?_
      refine wk_bipush xd_b9d140f9 ?_
      refine wk_icmp xd_96b2dc96 (t := 16) rfl (fun h9_1 => ?_) (fun h9_1 => ?_)
      · have h9_1 := aw_gt_t (a := (c : Int)) (b := (57 : Int)) hv (show (((Int8.ofInt 57).toInt32)).toInt = 57 from by decide) h9_1
        refine wk_iconst xd_8a867c64 ?_
        exact wk_ireturn xd_c216ac2b xr_eb49a9f5 wk_z0 ⟨_, rfl, .inr ⟨by decide, fun h => by omega⟩⟩
      · have h9_1 := aw_gt_f (a := (c : Int)) (b := (57 : Int)) hv (show (((Int8.ofInt 57).toInt32)).toInt = 57 from by decide) h9_1
        refine wk_iconst xd_eb47c6d4 ?_
        refine wk_goto xd_d72eff45 (t := 17) rfl ?_
        exact wk_ireturn xd_c216ac2b xr_eb49a9f5 wk_z1 ⟨_, rfl, .inl ⟨by decide, by omega, by omega⟩⟩
  obtain ⟨o, hC, x, rfl, a⟩ := h
  exact ⟨x, hC, a⟩
theorem rm_baload {C : Nat → List cm_V → cm_W → cm_O → Prop} {y pc : Nat} {lv : cm_L} {st : List cm_V} {w : cm_W} {Q : cm_O → Prop} {n len i : Nat} {x : Int32} {e : Int} (hg : wk_ar n 52 len = true) (hx : x.toInt = e) (he : e = (i : Int)) (hl : i < len) (hd : decode (ia_code y) pc = .ok (.baload, 1)) (hi : cm_do y pc .baload 1 lv (.inl x :: .inr (.inr (some n)) :: st) w = cm_al 52 pc lv (.inl x :: .inr (.inr (some n)) :: st) w) (k : cm_X C y (pc + 1) lv (.inl (w.1 n i) :: st) w Q) : cm_X C y pc lv (.inl x :: .inr (.inr (some n)) :: st) w Q := by
  have e1 : x.toInt.toNat = i := by rw [hx, he]; exact Int.toNat_natCast i
  refine wk_al hg (by omega) (by omega) hd hi ?_
  rw [e1]
  exact k
theorem mp_ok {w : cm_W} {T : Nat → Int} {n m q : Nat} (hT : rm_T w T n m) (hp : (w.1 184 4).toInt = (q : Int)) : ∃ x, cm_C 1 136 [.inr (.inr (some 184))] w (some (.inl x), w) ∧ x.toInt = rm_b T n q := by
  have hn9 : n ≤ 940 := hT.2.2.2.2.1
  have h : ∃ o, cm_C (0 + 1) 136 [.inr (.inr (some 184))] w o ∧ (fun o : cm_O => ∃ x, o = (some (.inl x), w) ∧ x.toInt = rm_b T n q) o := by
    refine wk_entry (by rw [xm_351ec5e1]; exact Nat.le_of_ble_eq_true rfl) ?_
    rw [show cm_ent 136 [.inr (.inr (some 184))] = [some (.inr (.inr (some 184)))] from by unfold cm_ent; rw [xm_351ec5e1]; rfl]
    refine wk_aload_n xd_b4b11ff8 rfl ?_
    refine wk_getI xf_c1bf163d xd_315838a5 ?_
    refine wk_aload_n xd_b4edbe6b rfl ?_
    refine wk_getI xf_ad82581e xd_41616281 ?_
    refine wk_icmp xd_e11b0e05 (t := 27) rfl (fun h8_0 => ?_) (fun h8_0 => ?_)
    · have h8_0 := aw_ge_t (a := ((q : Int) : Int)) (b := ((n : Int) : Int)) (show ((w.1 184 4)).toInt = ((q : Int) : Int) from hp) (show ((w.1 184 3)).toInt = ((n : Int) : Int) from hT.2.2.1) h8_0
      refine wk_iconst xd_df8ab45e ?_
      exact wk_ireturn xd_7ce18126 xr_b76db3c6 rfl ⟨_, rfl, by unfold rm_b; rw [if_neg (by omega)]; decide⟩
    · have h8_0 := aw_ge_f (a := ((q : Int) : Int)) (b := ((n : Int) : Int)) (show ((w.1 184 4)).toInt = ((q : Int) : Int) from hp) (show ((w.1 184 3)).toInt = ((n : Int) : Int) from hT.2.2.1) h8_0
      refine wk_aload_n xd_a0c9fcae rfl ?_
      refine wk_getR xf_d2fdfdc1 xd_3aa8be4e ?_
      refine wk_aload_n xd_a0955d3d rfl ?_
      refine wk_getI xf_c1bf163d xd_8f61096b ?_
      refine rm_baload (i := q) xf_4af44f64 ((show ((w.1 184 4)).toInt = ((q : Int) : Int) from hp)) (by omega) (by omega) xd_3413fe03 rfl ?_
      refine wk_sipush xd_76b0ef46 ?_
      refine wk_iand xd_0b7e2dff ?_
      refine wk_goto xd_b6c83485 (t := 28) rfl ?_
      exact wk_ireturn xd_7ce18126 xr_b76db3c6 rfl ⟨_, rfl, by unfold rm_b; rw [if_pos (by omega)]; exact hT.1 q (by omega)⟩
  obtain ⟨o, hC, x, rfl, a⟩ := h
  exact ⟨x, hC, a⟩

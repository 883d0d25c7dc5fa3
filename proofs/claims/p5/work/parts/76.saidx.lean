/-! ## by hand: the class's said -/
theorem wk_use {G : sv_GT} {s : sv_SM} {d : Nat} (h : sv_valid G s) (hd : s.2.1 ≤ d) {as : List cm_V} {w : cm_W} (ha : sv_all2 sv_v0 s.2.2.2.1 as) (hf : sv_fs (ia_E (sv_at w s.2.2.1)) 0 s.2.2.2.2.1 w) (hG : sv_w G w) : ∃ r w', cm_C d s.1 as w (r, w') ∧ sv_Q G s as w (r, w') := by
  obtain ⟨⟨r, w'⟩, h1, h2⟩ := h as w ha hf hG
  exact ⟨r, w', cm_C_mono hd h1, h2⟩
theorem wk_useR {R : cm_W → Prop} {G : sv_GT} {s : sv_SM} {d : Nat} (h : sv_validR R G s) (hd : s.2.1 ≤ d) {as : List cm_V} {w : cm_W} (ha : sv_all2 sv_v0 s.2.2.2.1 as) (hf : sv_fs (ia_E (sv_at w s.2.2.1)) 0 s.2.2.2.2.1 w) (hG : sv_w G w) (hR : R w) : ∃ r w', cm_C d s.1 as w (r, w') ∧ sv_Q G s as w (r, w') := by
  obtain ⟨⟨r, w'⟩, h1, h2⟩ := h as w ha hf hG hR
  exact ⟨r, w', cm_C_mono hd h1, h2⟩
theorem wk_int {lo hi de dh og : Nat} {r : Option cm_V} (h : sv_r0 (some (.inl (lo, hi, de, dh, og))) r) : ∃ x, r = some (.inl x) ∧ sv_in (lo, hi) x := by
  match r, h with
  | some (.inl x), h => exact ⟨x, rfl, h⟩
set_option maxRecDepth 100000 in
theorem hs_said_d : decode (ia_code 38) 0 = .ok (.aload_n 0, 1) ∧ decode (ia_code 38) 1 = .ok (.getfield 69, 3) ∧ decode (ia_code 38) 4 = .ok (.getfield 380, 3) ∧ decode (ia_code 38) 7 = .ok (.ifCond .ne 7, 3) ∧ decode (ia_code 38) 10 = .ok (.iconst (-1), 1) ∧ decode (ia_code 38) 11 = .ok (.goto 18, 3) ∧ decode (ia_code 38) 14 = .ok (.aload_n 0, 1) ∧ decode (ia_code 38) 15 = .ok (.getfield 69, 3) ∧ decode (ia_code 38) 18 = .ok (.aload_n 0, 1) ∧ decode (ia_code 38) 19 = .ok (.getfield 46, 3) ∧ decode (ia_code 38) 22 = .ok (.invokevirtual 383, 3) ∧ decode (ia_code 38) 25 = .ok (.iload_n 1, 1) ∧ decode (ia_code 38) 26 = .ok (.invokestatic 347, 3) ∧ decode (ia_code 38) 29 = .ok (.ireturn, 1) := by
  refine ⟨?_, ?_, ?_, ?_, ?_, ?_, ?_, ?_, ?_, ?_, ?_, ?_, ?_, ?_⟩ <;> decide +kernel
set_option maxRecDepth 100000 in
theorem hs_said_m : ia_maxL 38 = 2 ∧ ia_ret 38 = some .int ∧ wk_gf 38 69 0 11 (106 + 3) = true ∧ wk_gf 38 380 106 0 0 = true ∧ wk_gf 38 46 0 7 (33 + 3) = true ∧ ia_pl (ia_cls 38) 383 = some (1, 199, 0, 0, 1323) ∧ ia_na 199 = 2 ∧ (ia_mc 199 = 0 ∧ ia_ms 199 = 0) ∧ cm_rcv 199 [.inr (.inr (some 106)), .inr (.inr (some 33))] = true ∧ ia_pl (ia_cls 38) 347 = some (1, 16, 1, 0, 1159) ∧ ia_na 16 = 2 ∧ (ia_mc 16 = 0 ∧ ia_ms 16 = 0) := ⟨by decide +kernel, by decide +kernel, by decide +kernel, by decide +kernel, by decide +kernel, by decide +kernel, by decide +kernel, ⟨by decide +kernel, by decide +kernel⟩, by decide +kernel, by decide +kernel, by decide +kernel, ⟨by decide +kernel, by decide +kernel⟩⟩
def hs_said : sv_SM := (38, 9, 0, [.inr (some 0), .inl (0, 4294967295, 0, 0, 0)], [], tr_s.2.2.2.2.2.1 ++ sm_16_8758fad5.2.2.2.2.2.1, [(some (.inl (0, 4294967295, 0, 0, 0)), [], [])])
theorem hs_said_ok : sv_validR hs_Rs sg hs_said := by
  intro as w hargs hfs hG hR
  obtain ⟨c, t, rfl, h1, h2⟩ := sv_cons hargs
  obtain ⟨c2, t2, rfl, h3, h4⟩ := sv_cons h2
  have := sv_nil h4
  subst this
  obtain ⟨d0, d1, d4, d7, d10, d11, d14, d15, d18, d19, d22, d25, d26, d29⟩ := hs_said_d
  obtain ⟨m1, m2, m3, m4, m5, m6, m7, m8, m9, n6, n7, n8⟩ := hs_said_m
  match c, h1, c2, h3 with
  | .inr (.inr (some j)), h1, .inl k, _ =>
    have hj : j = 0 := h1
    subst hj
    have hent : cm_ent 38 [.inr (.inr (some 0)), .inl k] = [some (.inr (.inr (some 0))), some (.inl k)] := by
      unfold cm_ent
      rw [m1]
      rfl
    show ∃ o, cm_C (8 + 1) 38 [.inr (.inr (some 0)), .inl k] w o ∧ sv_Q sg hs_said [.inr (.inr (some 0)), .inl k] w o
    refine wk_entry (by rw [m1]; exact Nat.le_of_ble_eq_true rfl) ?_
    rw [hent]
    refine wk_aload_n d0 rfl ?_
    refine wk_getR m3 d1 ?_
    refine wk_getI m4 d4 ?_
    refine wk_if d7 (t := 14) rfl (fun _ => ?_) (fun _ => ?_)
    rotate_left
    · refine wk_iconst d10 ?_
      refine wk_goto d11 (t := 29) rfl ?_
      exact wk_ireturn d29 m2 rfl ⟨hG, fun _ _ _ => ⟨rfl, rfl⟩, _, List.mem_cons_self, sv_in_top _, trivial, fun f hf => by cases hf⟩
    refine wk_aload_n d14 rfl ?_
    refine wk_getR m3 d15 ?_
    refine wk_aload_n d18 rfl ?_
    refine wk_getR m5 d19 ?_
    obtain ⟨r1, w1, hC1, hG1, hF1, q1, hq1, hr1, -, -⟩ := wk_useR (d := 8) tr_ok (by decide) (as := [.inr (.inr (some 106)), .inr (.inr (some 33))]) (w := w) ⟨rfl, rfl, trivial⟩ (fun f hf => by cases hf) hG hR
    have e1 : q1.1 = some (.inl (0, 4294967295, 0, 0, 0)) := by
      rcases List.mem_cons.mp hq1 with rfl | hq1
      · rfl
      · cases hq1
    rw [e1] at hr1
    obtain ⟨x1, rfl, -⟩ := wk_int hr1
    refine wk_call (kd := 0) (i := 383) d22 rfl (wk_cal (as := [.inr (.inr (some 106)), .inr (.inr (some 33))]) (t := []) m6 rfl m7 m8 rfl rfl m9 rfl) hC1 ?_
    refine wk_iload_n d25 rfl ?_
    obtain ⟨r2, w2, hC2, hG2, hF2, q2, hq2, hr2, -, -⟩ := wk_use (d := 8) sm_16_8758fad5_ok (by decide) (as := [.inl x1, .inl k]) (w := w1) ⟨sv_in_top _, sv_in_top _, trivial⟩ (fun f hf => by cases hf) hG1
    obtain ⟨x2, rfl⟩ : ∃ x2, r2 = some (.inl x2) := by
      have hall : ∀ q ∈ sm_16_8758fad5.2.2.2.2.2.2, ∃ lo hi, q.1 = some (.inl (lo, hi, 0, 0, 0)) := by
        intro q hq
        simp only [sm_16_8758fad5, List.mem_cons, List.not_mem_nil, or_false] at hq
        rcases hq with rfl | rfl <;> exact ⟨_, _, rfl⟩
      obtain ⟨lo, hi, e⟩ := hall q2 hq2
      rw [e] at hr2
      obtain ⟨x2, h, -⟩ := wk_int hr2
      exact ⟨x2, h⟩
    refine wk_call (kd := 1) (i := 347) d26 rfl (wk_cal (as := [.inl x1, .inl k]) (t := []) n6 rfl n7 n8 rfl rfl rfl rfl) hC2 ?_
    refine wk_ireturn d29 m2 rfl ⟨hG2, fun a b hab => ?_, _, List.mem_cons_self, sv_in_top _, trivial, fun f hf => by cases hf⟩
    have n1 : ¬ sv_hit tr_s.2.2.2.2.2.1 a b := fun ⟨r, z1, z2⟩ => hab ⟨r, List.mem_append_left _ z1, z2⟩
    have n2 : ¬ sv_hit sm_16_8758fad5.2.2.2.2.2.1 a b := fun ⟨r, z1, z2⟩ => hab ⟨r, List.mem_append_right _ z1, z2⟩
    exact ⟨(hF2 a b n2).1.trans (hF1 a b n1).1, (hF2 a b n2).2.trans (hF1 a b n1).2⟩

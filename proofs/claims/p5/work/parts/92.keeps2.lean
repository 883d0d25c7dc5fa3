/-! ## by hand: keeps of the reference, its hours (wip/p2/gentab13.py) -/
theorem hkp_c2 : ((Int16.ofInt 200).toInt32).toInt = ((200 : Nat) : Int) := by decide
/-- goesOn(1) leaves the store -/
theorem hgo_ok {F : Nat} {wA w : cm_W} (hF4 : F ≤ 4) (h : hKp F wA w) : ∃ x w', cm_C 5 108 [.inr (.inr (some 184)), .inl (Int32.ofInt 1)] w (some (.inl x), w') ∧ hKp F wA w' := by
  obtain ⟨a1, a2, a3⟩ := h
  have h79 := a2 186 79
  rw [hkp_G.2.2.2] at h79
  obtain ⟨r, w', hC, hG', hF, q, hq, hr, -, -⟩ := wk_use (d := 5) sm_108_aeaca9c0_ok (by decide) (as := [.inr (.inr (some 184)), .inl (Int32.ofInt 1)]) (w := w) ⟨rfl, hb_mk (lo := 2147483649) (hi := 2147483649) (by decide) (by decide), trivial⟩ (fun f hf => by
    rcases List.mem_cons.mp hf with rfl | hf
    · exact ⟨h79, .inr (Nat.le_refl _), .inl rfl⟩
    · cases hf) a2
  have hfr : ∀ k i, ¬ (k = 186 ∧ (i = 79 ∨ (81 ≤ i ∧ i ≤ 93) ∨ (110 ≤ i ∧ i ≤ 119))) → w'.1 k i = w.1 k i ∧ w'.2 k i = w.2 k i := fun k i hki => hF k i (fun ⟨r, z, z1, z2, z3⟩ => by
    simp only [sm_108_aeaca9c0, List.mem_cons, List.not_mem_nil, or_false] at z
    rcases z with rfl | rfl | rfl
    · exact hki ⟨z1.symm, .inl (by simp only at z2 z3; omega)⟩
    · exact hki ⟨z1.symm, .inr (.inl ⟨z2, z3⟩)⟩
    · exact hki ⟨z1.symm, .inr (.inr ⟨z2, z3⟩)⟩)
  have hk : hKp F wA w' := by
    refine ⟨fun k i hki => ?_, hG', fun f f1 f2 => ?_⟩
    · have e := hfr k i (fun z => hki ⟨z.1, by omega, by omega⟩)
      have e2 := a1 k i hki
      exact ⟨e.1.trans e2.1, e.2.trans e2.2⟩
    · rw [(hfr 186 (100 + f) (by omega)).1]
      exact a3 f f1 f2
  rcases List.mem_cons.mp hq with rfl | hq
  · obtain ⟨x, rfl, hx⟩ := wk_int hr
    exact ⟨x, w', hC, hk⟩
  · rcases List.mem_cons.mp hq with rfl | hq
    · obtain ⟨x, rfl, hx⟩ := wk_int hr
      exact ⟨x, w', hC, hk⟩
    · cases hq
/-- its end -/
theorem hkp_end (s c : Int32) (F : Nat) (wA w2 : cm_W) (h : hKp F wA w2) (Q : cm_O → Prop) (hk : ∀ w3, hBk w2 w3 41 → Q (some (.inl c), w3)) : cm_X (cm_C 5) 122 26 [some (.inr (.inr (some 184))), some (.inl s), some (.inl c), some (.inl (Int32.ofInt 0))] [] w2 Q := by
  obtain ⟨d0, d1, d2, d5, d6, d7, d10, d13, d16, d17, d18, d19, d22, d23, d24, d25, d26, d27, d30, d31, d32, d35, d38, d39, d41, d42, d45, d48, d49, d50, d51, d54, d55, d58, d61, d64, d65, d66, d69, d72, d73, d76, d79, d80, d81, d84, d85, d88, d89, d92, d93, d94, d95, d96, d99, d100, d103, d104, d105, d106, d109, d110, d113, d114⟩ := hkp_d
  obtain ⟨m1, m2, pt, i1, i2, i3, t1, t2, t3, w1_, w2_, w3_, s1, s2, s3, o1, o2, o3, e1_, e2_, e3_, g1, g2, g3, b1, b2, b3, rt, rw_, rs, ro, re_, rg, rb⟩ := hkp_m
  obtain ⟨w3, hC, h3⟩ := hbk_ok w2 h.2.1
  refine wk_iload_n d26 rfl ?_
  refine wk_if d27 (t := 109) rfl (fun _ => ?_) (fun hc => absurd hc (by decide))
  refine wk_aload_n d109 rfl ?_
  refine wk_call (kd := 0) (i := 366) d110 rfl (wk_cal (as := [.inr (.inr (some 184))]) (t := []) b1 rfl b2 b3 rfl rfl rb rfl) (cm_C_mono (by decide) hC) ?_
  refine wk_iload_n d113 rfl ?_
  exact wk_ireturn d114 m2 rfl (hk w3 h3)
/-- hour by hour -/
theorem hkp_l2 (s : Int32) (F : Nat) (hF4 : F ≤ 4) (wA : cm_W) (hF : (wA.1 186 1).toInt = (F : Int)) (Q : cm_O → Prop) (hk : ∀ c w2 w3, hKp F wA w2 → hBk w2 w3 41 → Q (some (.inl c), w3)) : ∀ (n c : Nat) (w : cm_W), n + c = 200 → hKp F wA w → cm_X (cm_C 5) 122 26 [some (.inr (.inr (some 184))), some (.inl s), some (.inl (Int32.ofNat c)), some (.inl (Int32.ofInt 1))] [] w Q := by
  obtain ⟨d0, d1, d2, d5, d6, d7, d10, d13, d16, d17, d18, d19, d22, d23, d24, d25, d26, d27, d30, d31, d32, d35, d38, d39, d41, d42, d45, d48, d49, d50, d51, d54, d55, d58, d61, d64, d65, d66, d69, d72, d73, d76, d79, d80, d81, d84, d85, d88, d89, d92, d93, d94, d95, d96, d99, d100, d103, d104, d105, d106, d109, d110, d113, d114⟩ := hkp_d
  obtain ⟨m1, m2, pt, i1, i2, i3, t1, t2, t3, w1_, w2_, w3_, s1, s2, s3, o1, o2, o3, e1_, e2_, e3_, g1, g2, g3, b1, b2, b3, rt, rw_, rs, ro, re_, rg, rb⟩ := hkp_m
  intro n
  induction n with
  | zero =>
    intro c w hc0 h
    refine wk_iload_n d26 rfl ?_
    refine wk_if d27 (t := 109) rfl (fun hc => absurd hc (by decide)) (fun _ => ?_)
    refine hkp_l1 s _ _ F hF4 wA hF Q (fun w h => ?_) 21 w (by
      have a := hkp_st h.2.1
      have a0 := a 0 (by omega)
      have a1 := a 1 (by omega)
      have a2 := a 2 (by omega)
      have a3 := a 3 (by omega)
      unfold hSm
      omega) h
    obtain ⟨x, hC, hx1, hx2⟩ := hwh_ok w s h.2.1
    refine wk_aload_n d64 rfl ?_
    refine wk_iload_n d65 rfl ?_
    refine wk_call (kd := 0) (i := 375) d66 rfl (wk_cal (as := [.inr (.inr (some 184)), .inl s]) (t := []) w1_ rfl w2_ w3_ rfl rfl rw_ rfl) (cm_C_mono (by decide) hC) ?_
    have out : cm_X (cm_C 5) 122 92 [some (.inr (.inr (some 184))), some (.inl s), some (.inl (Int32.ofNat c)), some (.inl (Int32.ofInt 1))] [] w Q := by
      refine wk_iconst d92 ?_
      refine wk_istore_n d93 (by rw [m1]; rfl) rfl ?_
      refine wk_iload_n d94 rfl ?_
      refine wk_iload_n d95 rfl ?_
      refine wk_if d96 (t := 103) rfl (fun _ => ?_) (fun hc => absurd hc (by decide))
      refine wk_iconst d103 ?_
      refine wk_iadd d104 ?_
      refine wk_istore_n d105 (by rw [m1]; rfl) rfl ?_
      refine wk_goto d106 (t := 26) rfl ?_
      exact hkp_end s _ F wA w h Q (fun w3 h3 => hk _ w w3 h h3)
    refine wk_if d69 (t := 92) rfl (fun _ => out) (fun _ => ?_)
    refine wk_iload_n d72 rfl ?_
    refine wk_sipush d73 ?_
    refine wk_icmp d76 (t := 92) rfl (fun _ => out) (fun hc => ?_)
    have := (hk_ge (by omega) hkp_c2 hc).2 rfl
    omega
  | succ n ih =>
    intro c w hc0 h
    refine wk_iload_n d26 rfl ?_
    refine wk_if d27 (t := 109) rfl (fun hc => absurd hc (by decide)) (fun _ => ?_)
    refine hkp_l1 s _ _ F hF4 wA hF Q (fun w h => ?_) 21 w (by
      have a := hkp_st h.2.1
      have a0 := a 0 (by omega)
      have a1 := a 1 (by omega)
      have a2 := a 2 (by omega)
      have a3 := a 3 (by omega)
      unfold hSm
      omega) h
    obtain ⟨x, hC, hx1, hx2⟩ := hwh_ok w s h.2.1
    refine wk_aload_n d64 rfl ?_
    refine wk_iload_n d65 rfl ?_
    refine wk_call (kd := 0) (i := 375) d66 rfl (wk_cal (as := [.inr (.inr (some 184)), .inl s]) (t := []) w1_ rfl w2_ w3_ rfl rfl rw_ rfl) (cm_C_mono (by decide) hC) ?_
    have out : ∀ w, hKp F wA w → cm_X (cm_C 5) 122 92 [some (.inr (.inr (some 184))), some (.inl s), some (.inl (Int32.ofNat c)), some (.inl (Int32.ofInt 1))] [] w Q := fun w h => by
      refine wk_iconst d92 ?_
      refine wk_istore_n d93 (by rw [m1]; rfl) rfl ?_
      refine wk_iload_n d94 rfl ?_
      refine wk_iload_n d95 rfl ?_
      refine wk_if d96 (t := 103) rfl (fun _ => ?_) (fun hc => absurd hc (by decide))
      refine wk_iconst d103 ?_
      refine wk_iadd d104 ?_
      refine wk_istore_n d105 (by rw [m1]; rfl) rfl ?_
      refine wk_goto d106 (t := 26) rfl ?_
      exact hkp_end s _ F wA w h Q (fun w3 h3 => hk _ w w3 h h3)
    refine wk_if d69 (t := 92) rfl (fun _ => out w h) (fun _ => ?_)
    refine wk_iload_n d72 rfl ?_
    refine wk_sipush d73 ?_
    refine wk_icmp d76 (t := 92) rfl (fun _ => out w h) (fun _ => ?_)
    obtain ⟨x2, w2, hC2, h2⟩ := hgo_ok hF4 h
    refine wk_aload_n d79 rfl ?_
    refine wk_iconst d80 ?_
    refine wk_call (kd := 0) (i := 313) d81 rfl (wk_cal (as := [.inr (.inr (some 184)), .inl (Int32.ofInt 1)]) (t := []) g1 rfl g2 g3 rfl rfl rg rfl) hC2 ?_
    refine wk_iconst d84 ?_
    refine wk_icmp d85 (t := 92) rfl (fun _ => out w2 h2) (fun _ => ?_)
    refine wk_iconst d88 ?_
    refine wk_goto d89 (t := 93) rfl ?_
    refine wk_istore_n d93 (by rw [m1]; rfl) rfl ?_
    refine wk_iload_n d94 rfl ?_
    refine wk_iload_n d95 rfl ?_
    refine wk_if d96 (t := 103) rfl (fun hc => absurd hc (by decide)) (fun _ => ?_)
    refine wk_iconst d99 ?_
    refine wk_goto d100 (t := 104) rfl ?_
    refine wk_iadd d104 ?_
    refine wk_istore_n d105 (by rw [m1]; rfl) rfl ?_
    refine wk_goto d106 (t := 26) rfl ?_
    rw [hk_inc c (by omega)]
    exact ih (c + 1) w2 (by omega) h2
/-- no food beyond the foods -/
def hJ2 (w : cm_W) : Prop := ∀ f : Nat, f < 4 → (w.1 186 1).toInt ≤ (f : Int) → (w.1 186 (100 + f)).toInt = 0
/-- keeps of the reference ends, and leaves the valley as it was -/
theorem hkp_ok (w : cm_W) (s : Int32) (hG : sv_w sg w) (hJ : hJ2 w) : ∃ x w', cm_C 6 122 [.inr (.inr (some 184)), .inl s] w (some (.inl x), w') ∧ sv_w sg w' ∧ ∀ k i, k ≠ 192 → ¬ (k = 184 ∧ i = 0) → w'.1 k i = w.1 k i := by
  obtain ⟨d0, d1, d2, d5, d6, d7, d10, d13, d16, d17, d18, d19, d22, d23, d24, d25, d26, d27, d30, d31, d32, d35, d38, d39, d41, d42, d45, d48, d49, d50, d51, d54, d55, d58, d61, d64, d65, d66, d69, d72, d73, d76, d79, d80, d81, d84, d85, d88, d89, d92, d93, d94, d95, d96, d99, d100, d103, d104, d105, d106, d109, d110, d113, d114⟩ := hkp_d
  obtain ⟨m1, m2, pt, i1, i2, i3, t1, t2, t3, w1_, w2_, w3_, s1, s2, s3, o1, o2, o3, e1_, e2_, e3_, g1, g2, g3, b1, b2, b3, rt, rw_, rs, ro, re_, rg, rb⟩ := hkp_m
  have h : ∃ o, cm_C (5 + 1) 122 [.inr (.inr (some 184)), .inl s] w o ∧ (fun o : cm_O => ∃ x w', o = (some (.inl x), w') ∧ sv_w sg w' ∧ ∀ k i, k ≠ 192 → ¬ (k = 184 ∧ i = 0) → w'.1 k i = w.1 k i) o := by
    refine wk_entry (by rw [m1]; exact Nat.le_of_ble_eq_true rfl) ?_
    rw [show cm_ent 122 [.inr (.inr (some 184)), .inl s] = [some (.inr (.inr (some 184))), some (.inl s), none, none] from by unfold cm_ent; rw [m1]; rfl]
    refine wk_aload_n d0 rfl ?_
    refine wk_iconst d1 ?_
    refine wk_putI pt (fun ci => wk_fitI ci) d2 ?_
    have hG0 : sv_w sg (cm_u1 w 184 0 (Int32.ofInt 0)) := sv_w_u1 hG (by rw [hb_G.2.2.2.2.1]; exact hb_mk (by decide) (by decide))
    have hF0 : ∀ k i, ¬ (k = 184 ∧ i = 0) → (cm_u1 w 184 0 (Int32.ofInt 0)).1 k i = w.1 k i := fun k i hki => hs_u1_ne hki
    generalize cm_u1 w 184 0 (Int32.ofInt 0) = w0 at hG0 hF0 ⊢
    refine wk_iload_n d5 rfl ?_
    refine wk_iconst d6 ?_
    refine wk_sipush d7 ?_
    obtain ⟨r, w', hC, hG', hF, q, hq, hr, -, -⟩ := wk_use (d := 5) sm_115_8d658d68_ok (by decide) (as := [.inl s, .inl (Int32.ofInt 1), .inl (Int16.ofInt 199).toInt32]) (w := w0) ⟨sv_in_top _, hb_mk (lo := 2147483649) (hi := 2147483649) (by decide) (by decide), hb_mk (lo := 2147483847) (hi := 2147483847) (by decide) (by decide), trivial⟩ (fun f hf => by cases hf) hG0
    have ew : w' = w0 := Prod.ext (funext fun k => funext fun i => (hF k i (fun ⟨r, z, _⟩ => by cases z)).1) (funext fun k => funext fun i => (hF k i (fun ⟨r, z, _⟩ => by cases z)).2)
    rw [ew] at hC
    obtain ⟨x2, rfl⟩ : ∃ x2, r = some (.inl x2) := by
      have hall : ∀ q ∈ sm_115_8d658d68.2.2.2.2.2.2, ∃ lo hi, q.1 = some (.inl (lo, hi, 0, 0, 0)) := by
        intro q hq
        simp only [sm_115_8d658d68, List.mem_cons, List.not_mem_nil, or_false] at hq
        rcases hq with rfl | rfl | rfl <;> exact ⟨_, _, rfl⟩
      obtain ⟨lo, hi, e⟩ := hall q hq
      rw [e] at hr
      obtain ⟨x2, h, -⟩ := wk_int hr
      exact ⟨x2, h⟩
    refine wk_call (kd := 1) (i := 182) d10 rfl (wk_cal (as := [.inl s, .inl (Int32.ofInt 1), .inl (Int16.ofInt 199).toInt32]) (t := []) i1 rfl i2 i3 rfl rfl rfl rfl) hC ?_
    refine wk_if d13 (t := 18) rfl (fun _ => ?_) (fun _ => ?_)
    rotate_left
    · refine wk_iconst d16 ?_
      exact wk_ireturn d17 m2 rfl ⟨_, w0, rfl, hG0, fun k i _ hki => hF0 k i hki⟩
    obtain ⟨wA, hCA, c1, c2, c3, c4, c5⟩ := hty_ok w0 hG0
    refine wk_aload_n d18 rfl ?_
    refine wk_call (kd := 0) (i := 363) d19 rfl (wk_cal (as := [.inr (.inr (some 184))]) (t := []) t1 rfl t2 t3 rfl rfl rt rfl) (cm_C_mono (by decide) hCA) ?_
    refine wk_iconst d22 ?_
    refine wk_istore_n d23 (by rw [m1]; rfl) rfl ?_
    refine wk_iconst d24 ?_
    refine wk_istore_n d25 (by rw [m1]; rfl) rfl ?_
    have b1' := c5 186 1
    rw [hb_G.2.1] at b1'
    have b1'' := hb_in b1'
    have eA : ∀ i, wA.1 186 i = w.1 186 i := fun i => (c1 186 i (by decide)).trans (hF0 186 i (fun z => absurd z.1 (by decide)))
    refine hkp_l2 s (wA.1 186 1).toInt.toNat (by omega) wA (by omega) _ (fun c w2 w3 h2 h3 => ?_) 200 0 wA rfl ⟨fun _ _ _ => ⟨rfl, rfl⟩, c5, fun f f1 f2 => ?_⟩
    · refine ⟨_, w3, rfl, h3.2.2.2, fun k i hk hki => ?_⟩
      by_cases e : k = 186 ∧ 79 ≤ i ∧ i < 120
      · obtain ⟨rfl, e1, e2⟩ := e
        have := h3.2.1 (i - 79) (by omega)
        rw [show 79 + (i - 79) = i from by omega] at this
        rw [this, (h2.1 192 (i - 79) (fun z => absurd z.1 (by decide))).1, c2 (i - 79) (by omega), show 79 + (i - 79) = i from by omega]
        exact hF0 186 i hki
      · rw [h3.1 k i e, (h2.1 k i e).1, c1 k i hk]
        exact hF0 k i hki
    · rw [eA]
      refine hJ f f2 ?_
      rw [← eA]
      omega
  obtain ⟨o, hC, x, w', rfl, a1, a2⟩ := h
  exact ⟨x, w', hC, a1, a2⟩

/-! ## by hand: tables of the reference, whole (wip/p2/gentab6.py) -/
theorem hfr_E {w0 w1 : cm_W} (h : ∀ j, w1.1 186 j = w0.1 186 j) (m p d : Int32) : hfr w1 m p d = hfr w0 m p d := by
  unfold hfr hfrH hpt hbhF
  simp only [h]
set_option maxRecDepth 100000 in
theorem ht_r4 : (Nat.beq 0 1 || cm_rcv 260 [.inr (.inr (some 184)), .inl 0, .inl 0, .inl 0]) = true := by decide +kernel
/-- what a start of it asks -/
def hPre (w0 : cm_W) (P : Nat) : Prop := (w0.1 186 0).toInt = (P : Int) ∧ P ≤ 6 ∧ 0 ≤ (w0.1 186 1).toInt ∧ (w0.1 186 1).toInt ≤ 4 ∧ w0.1 186 4 ≠ 0 ∧ (∀ j, j < 4 → (w0.1 186 (100 + j)).toInt ≤ 5)
/-- every plate of a row -/
theorem ht_l4 (w0 : cm_W) (s d : Int32) (P m : Nat) (hpre : hPre w0 P) (hm : m < 6) (hb : hbt s (Int32.ofNat m) = true) (ws : cm_W) (hnx : ∀ u, u < 1296 → 0 ≤ (hf ws (m + 1) u).toInt ∧ (hf ws (m + 1) u).toInt ≤ 1000000) (Q : cm_O → Prop) (hk : ∀ w' o4 o5 o6, hE w0 w' → (∀ m' u, u < 1296 → m' ≠ m → hf w' m' u = hf ws m' u) → (∀ u, u < 1296 → hCell w0 d w' m u) → (∀ u, u < 1296 → hMin w0 d w' m 256 u) → cm_X (cm_C 3) 284 226 [some (.inr (.inr (some 184))), some (.inl s), some (.inl d), some (.inl (Int32.ofNat m)), o4, o5, o6] [] w' Q) : ∀ (n j : Nat) (o5 o6 : Option cm_V) (w1 : cm_W), n + j = 256 → hE w0 w1 → (∀ m' u, u < 1296 → m' ≠ m → hf w1 m' u = hf ws m' u) → (∀ u, u < 1296 → hCell w0 d w1 m u) → (∀ u, u < 1296 → hMin w0 d w1 m j u) → cm_X (cm_C 3) 284 108 [some (.inr (.inr (some 184))), some (.inl s), some (.inl d), some (.inl (Int32.ofNat m)), some (.inl (Int32.ofNat j)), o5, o6] [] w1 Q := by
  obtain ⟨d0, d1, d2, d3, d6, d9, d10, d13, d16, d17, d20, d21, d22, d23, d24, d25, d26, d27, d30, d33, d34, d37, d38, d39, d40, d41, d42, d43, d46, d47, d49, d51, d54, d57, d58, d61, d64, d65, d66, d68, d69, d70, d71, d74, d77, d80, d83, d84, d87, d90, d91, d92, d93, d94, d96, d97, d98, d99, d102, d105, d106, d108, d110, d113, d116, d117, d118, d121, d124, d125, d126, d128, d129, d132, d135, d138, d139, d141, d143, d146, d149, d150, d152, d154, d157, d159, d161, d164, d165, d168, d171, d172, d173, d175, d176, d177, d180, d183, d184, d185, d187, d188, d189, d191, d194, d195, d198, d201, d202, d203, d204, d205, d207, d208, d209, d210, d213, d214, d217, d220, d223, d226, d229, d232⟩ := ht_d
  obtain ⟨m1, m2, gf, gs, af, as_, b1, b2, b3, i1, i2, i3, u1, u2, u3, p1, p2, p3, l1, l2, l3⟩ := ht_m
  obtain ⟨-, -, h10, h14, h4, hst⟩ := hpre
  intro n
  induction n with
  | zero =>
    intro j o5 o6 w1 hj hE1 hne hc0 hn0
    have ej : j = 256 := by omega
    subst ej
    refine wk_iload d108 rfl ?_
    refine wk_sipush d110 ?_
    refine wk_icmp d113 (t := 226) rfl (fun _ => hk w1 _ o5 o6 hE1 hne hc0 hn0) (fun hc => ?_)
    have := (hk_ge (by omega) hk_c256 hc).2 rfl
    omega
  | succ n ih =>
    intro j o5 o6 w1 hj hE1 hne hc0 hn0
    have h186 : ∀ k, w1.1 186 k = w0.1 186 k := fun k => hE1.1 186 k (by decide)
    have next : ∀ (o5 o6 : Option cm_V) (w2 : cm_W), hE w0 w2 → (∀ m' u, u < 1296 → m' ≠ m → hf w2 m' u = hf ws m' u) → (∀ u, u < 1296 → hCell w0 d w2 m u) → (∀ u, u < 1296 → hMin w0 d w2 m (j + 1) u) → cm_X (cm_C 3) 284 220 [some (.inr (.inr (some 184))), some (.inl s), some (.inl d), some (.inl (Int32.ofNat m)), some (.inl (Int32.ofNat j)), o5, o6] [] w2 Q := fun o5 o6 w2 a1 a2 a3 a4 => by
      refine wk_iinc d220 (by rw [m1]; rfl) rfl rfl ?_
      refine wk_goto d223 (t := 108) rfl ?_
      rw [hk_inc j (by omega)]
      exact ih (j + 1) o5 o6 w2 (by omega) a1 a2 a3 a4
    refine wk_iload d108 rfl ?_
    refine wk_sipush d110 ?_
    refine wk_icmp d113 (t := 226) rfl (fun hc => ?_) (fun _ => ?_)
    · have := (hk_ge (by omega) hk_c256 hc).1 rfl
      omega
    refine wk_iload_n d116 rfl ?_
    refine wk_iload_n d117 rfl ?_
    refine wk_call (kd := 1) (i := 207) d118 rfl (wk_cal (as := [.inl s, .inl (Int32.ofNat m)]) (t := []) b1 rfl b2 b3 rfl rfl rfl rfl) (cm_C_mono (by decide) (hbt_ok s (Int32.ofNat m) w1)) ?_
    refine wk_if d121 (t := 226) rfl (fun hc => ?_) (fun _ => ?_)
    · have := (hbI_0 hc).1 rfl
      rw [hb] at this
      cases this
    refine wk_aload_n d124 rfl ?_
    refine wk_iload_n d125 rfl ?_
    refine wk_iload d126 rfl ?_
    refine wk_iload_n d128 rfl ?_
    have hcall := hfr_ok (Int32.ofNat m) (Int32.ofNat j) d w1 (by rw [h186]; exact h10) (by rw [h186]; exact h14) (by rw [h186]; exact h4) (by rw [hk_to m (by omega)]; omega) (by rw [hk_to m (by omega)]; omega)
    rw [hfr_E h186] at hcall
    refine wk_call (kd := 0) (i := 332) d129 rfl (wk_cal (as := [.inr (.inr (some 184)), .inl (Int32.ofNat m), .inl (Int32.ofNat j), .inl d]) (t := []) i1 rfl i2 i3 rfl rfl ht_r4 rfl) hcall ?_
    refine wk_if d132 (t := 138) rfl (fun hc => ?_) (fun hc => ?_)
    · have hfit : hfr w0 (Int32.ofNat m) (Int32.ofNat j) d = true := by
        cases hz : hfr w0 (Int32.ofNat m) (Int32.ofNat j) d with
        | true => rfl
        | false =>
          rw [hz] at hc
          exact absurd hc (by decide)
      refine wk_iconst d138 ?_
      refine wk_istore d139 (by rw [m1]; rfl) rfl ?_
      exact ht_l3 w0 s d m j hm (by omega) hst hfit w1 hE1 (fun u hu => by rw [hne (m + 1) u hu (by omega)]; exact hnx u hu) Q (fun w' o6 a1 a2 a3 a4 => next _ _ w' a1 (fun m' u hu hm' => (a2 m' u hu hm').trans (hne m' u hu hm')) a3 a4) 1296 0 o6 w1 rfl hE1 (fun _ _ _ _ => rfl) hc0 hn0 (fun u hu => absurd hu (Nat.not_lt_zero _))
    · refine wk_goto d135 (t := 220) rfl ?_
      refine next o5 o6 w1 hE1 hne hc0 (fun u hu p' v c1 c2 c3 c4 => ?_)
      by_cases ep : p' = j
      · rw [ep] at c3
        rw [c3] at hc
        exact absurd hc (by decide)
      · exact hn0 u hu p' v (by omega) c2 c3 c4
theorem ht_3 : ∀ m, m < 6 → Int32.ofInt (((m + 1 : Nat) : Int) - 1) = Int32.ofNat m := by decide
theorem ht_3b : ∀ m, m < 6 → Int32.ofNat m + Int32.ofInt (-1) = Int32.ofInt (((m : Nat) : Int) - 1) := by decide
theorem ht_3c : ∀ M, M < 7 → cm_cmp .lt (Int32.ofInt (((M : Nat) : Int) - 1)) 0 = decide (M = 0) := by decide
theorem ht_3d : ∀ P, P < 7 → Int32.ofNat P - Int32.ofInt 1 = Int32.ofInt (((P : Nat) : Int) - 1) := by decide
theorem hTab_nx {w0 : cm_W} {s d : Int32} {P : Nat} {w : cm_W} {m : Nat} (h : hTab w0 s d P w (m + 1)) (hm : m < P) : ∀ u, u < 1296 → 0 ≤ (hf w (m + 1) u).toInt ∧ (hf w (m + 1) u).toInt ≤ 1000000 := fun u hu => by
  by_cases e : m + 1 = P
  · rw [e, h.1 u hu, ht_c0]
    decide
  · obtain ⟨a, b, -⟩ := h.2 (m + 1) (Nat.le_refl _) (by omega) u hu
    exact ⟨a, b⟩
theorem hRow_eq {w0 : cm_W} {s d : Int32} {w w' : cm_W} {m u : Nat} (h1 : ∀ v, v < 1296 → hf w' m v = hf w m v) (h2 : ∀ v, v < 1296 → hf w' (m + 1) v = hf w (m + 1) v) (hu0 : u < 1296) (h : hRow w0 s d w m u) : hRow w0 s d w' m u := by
  unfold hRow at h ⊢
  rw [h1 u hu0, h2 u hu0]
  refine ⟨h.1, h.2.1, h.2.2.1, fun hb => (h.2.2.2 hb).imp id ?_⟩
  rintro ⟨p, v, c1, c2, c3, c4, c5⟩
  exact ⟨p, v, c1, c2, c3, c4, by rw [h2 v c2]; exact c5⟩
/-- no plate makes a row less -/
def hTabM (w0 : cm_W) (s d : Int32) (P : Nat) (w : cm_W) (M : Nat) : Prop := ∀ m, M ≤ m → m < P → hbt s (Int32.ofNat m) = true → ∀ u, u < 1296 → hMin w0 d w m 256 u
theorem hMin_eq {w0 : cm_W} {d : Int32} {w w' : cm_W} {m p u : Nat} (h1 : hf w' m u = hf w m u) (h2 : ∀ v, v < 1296 → hf w' (m + 1) v = hf w (m + 1) v) (h : hMin w0 d w m p u) : hMin w0 d w' m p u := fun p' v c1 c2 c3 c4 => by
  rw [h1, h2 v c2]
  exact h p' v c1 c2 c3 c4
/-- all rows -/
theorem ht_l5 (w0 : cm_W) (s d : Int32) (P : Nat) (hpre : hPre w0 P) (Q : cm_O → Prop) (hk : ∀ w', hE w0 w' → hTab w0 s d P w' 0 → hTabM w0 s d P w' 0 → Q (none, w')) : ∀ (M : Nat) (o4 o5 o6 : Option cm_V) (w1 : cm_W), M ≤ P → hE w0 w1 → hTab w0 s d P w1 M → hTabM w0 s d P w1 M → cm_X (cm_C 3) 284 42 [some (.inr (.inr (some 184))), some (.inl s), some (.inl d), some (.inl (Int32.ofInt (((M : Nat) : Int) - 1))), o4, o5, o6] [] w1 Q := by
  obtain ⟨d0, d1, d2, d3, d6, d9, d10, d13, d16, d17, d20, d21, d22, d23, d24, d25, d26, d27, d30, d33, d34, d37, d38, d39, d40, d41, d42, d43, d46, d47, d49, d51, d54, d57, d58, d61, d64, d65, d66, d68, d69, d70, d71, d74, d77, d80, d83, d84, d87, d90, d91, d92, d93, d94, d96, d97, d98, d99, d102, d105, d106, d108, d110, d113, d116, d117, d118, d121, d124, d125, d126, d128, d129, d132, d135, d138, d139, d141, d143, d146, d149, d150, d152, d154, d157, d159, d161, d164, d165, d168, d171, d172, d173, d175, d176, d177, d180, d183, d184, d185, d187, d188, d189, d191, d194, d195, d198, d201, d202, d203, d204, d205, d207, d208, d209, d210, d213, d214, d217, d220, d223, d226, d229, d232⟩ := ht_d
  obtain ⟨m1, m2, gf, gs, af, as_, b1, b2, b3, i1, i2, i3, u1, u2, u3, p1, p2, p3, l1, l2, l3⟩ := ht_m
  obtain ⟨hP, hP6, h10, h14, h4, hst⟩ := id hpre
  intro M
  induction M with
  | zero =>
    intro o4 o5 o6 w1 hM hE1 hT hTM
    refine wk_iload_n d42 rfl ?_
    refine wk_if d43 (t := 232) rfl (fun _ => ?_) (fun hc => ?_)
    · exact wk_return d232 m2 (hk w1 hE1 hT hTM)
    · rw [ht_3c 0 (by decide)] at hc
      cases hc
  | succ m ih =>
    intro o4 o5 o6 w1 hM hE1 hT hTM
    have hm6 : m < 6 := by omega
    rw [ht_3 m hm6]
    refine wk_iload_n d42 rfl ?_
    refine wk_if d43 (t := 232) rfl (fun hc => ?_) (fun _ => ?_)
    · rw [ht_nn m (by omega)] at hc
      cases hc
    refine wk_iconst d46 ?_
    refine wk_istore d47 (by rw [m1]; rfl) rfl ?_
    have fin : ∀ (w' : cm_W) (o4 o5 o6 : Option cm_V), hE w0 w' → (∀ m' u, u < 1296 → m' ≠ m → hf w' m' u = hf w1 m' u) → (∀ u, u < 1296 → hRow w0 s d w' m u) → (hbt s (Int32.ofNat m) = true → ∀ u, u < 1296 → hMin w0 d w' m 256 u) → cm_X (cm_C 3) 284 226 [some (.inr (.inr (some 184))), some (.inl s), some (.inl d), some (.inl (Int32.ofNat m)), o4, o5, o6] [] w' Q := fun w' o4 o5 o6 a1 a2 a3 a4 => by
      refine wk_iinc d226 (by rw [m1]; rfl) rfl rfl ?_
      refine wk_goto d229 (t := 42) rfl ?_
      show cm_X _ _ _ [_, _, _, some (.inl (Int32.ofNat m + Int32.ofInt (-1))), _, _, _] _ _ _
      rw [ht_3b m hm6]
      refine ih o4 o5 o6 w' (by omega) a1 ?_ (fun m' h1 h2 hb' u hu => ?_)
      rotate_left
      · by_cases e : m' = m
        · rw [e] at hb' ⊢; exact a4 hb' u hu
        · exact hMin_eq (a2 m' u hu e) (fun v hv => a2 (m' + 1) v hv (by omega)) (hTM m' (by omega) h2 hb' u hu)
      refine ⟨fun u hu => by rw [a2 P u hu (by omega)]; exact hT.1 u hu, fun m' h1 h2 u hu => ?_⟩
      by_cases e : m' = m
      · rw [e]; exact a3 u hu
      · exact hRow_eq (fun v hv => a2 m' v hv e) (fun v hv => a2 (m' + 1) v hv (by omega)) hu (hT.2 m' (by omega) h2 u hu)
    have hnx := hTab_nx hT (by omega)
    refine ht_l2 s d m hm6 w1 o5 o6 Q (fun w' a1 a2 a3 => ?_) 1296 0 w1 rfl (hE_refl w1) (fun _ _ _ _ => rfl) (fun u hu => absurd hu (Nat.not_lt_zero _))
    have hE2 : hE w0 w' := ⟨fun k j hk' => (a1.1 k j hk').trans (hE1.1 k j hk'), fun k j => (a1.2 k j).trans (hE1.2 k j)⟩
    refine wk_iconst d105 ?_
    refine wk_istore d106 (by rw [m1]; rfl) rfl ?_
    cases hb : hbt s (Int32.ofNat m) with
    | true =>
      rw [hb] at a3
      refine ht_l4 w0 s d P m hpre hm6 hb w' (fun u hu => by rw [a2 (m + 1) u hu (by omega)]; exact hnx u hu) Q (fun w2 o4 o5 o6 c1 c2 c3 c4 => ?_) 256 0 o5 o6 w' rfl hE2 (fun _ _ _ _ => rfl) (fun u hu => ?_) (fun u hu p' v z => absurd z (Nat.not_lt_zero _))
      · refine fin w2 o4 o5 o6 c1 (fun m' u hu hm' => (c2 m' u hu hm').trans (a2 m' u hu hm')) (fun u hu => ?_) (fun _ => c4)
        obtain ⟨q1, q2, q3⟩ := c3 u hu
        exact ⟨q1, q2, (fun z => by rw [hb] at z; cases z), fun _ => q3⟩
      · unfold hCell
        rw [a3 u hu, if_pos rfl, ht_farI]
        exact ⟨by decide, by decide, Or.inl rfl⟩
    | false =>
      rw [hb] at a3
      refine wk_iload d108 rfl ?_
      refine wk_sipush d110 ?_
      refine wk_icmp d113 (t := 226) rfl (fun hc => ?_) (fun _ => ?_)
      · have := (hk_ge (j := 0) (by decide) hk_c256 hc).1 rfl
        omega
      refine wk_iload_n d116 rfl ?_
      refine wk_iload_n d117 rfl ?_
      refine wk_call (kd := 1) (i := 207) d118 rfl (wk_cal (as := [.inl s, .inl (Int32.ofNat m)]) (t := []) b1 rfl b2 b3 rfl rfl rfl rfl) (cm_C_mono (by decide) (hbt_ok s (Int32.ofNat m) w')) ?_
      refine wk_if d121 (t := 226) rfl (fun _ => ?_) (fun hc => ?_)
      · refine fin w' _ o5 o6 hE2 a2 (fun u hu => ?_) (fun z => by rw [hb] at z; cases z)
        unfold hRow
        have e : hf w' m u = hf w1 (m + 1) u := by rw [a3 u hu]; rfl
        have e2 : hf w' (m + 1) u = hf w1 (m + 1) u := a2 (m + 1) u hu (by omega)
        obtain ⟨n1, n2⟩ := hnx u hu
        rw [e, e2, hb]
        exact ⟨n1, n2, fun _ => rfl, fun z => by cases z⟩
      · have := (hbI_0 hc).2 rfl
        rw [hb] at this
        cases this
/-- tables: its rows -/
theorem ht_ok (w0 : cm_W) (s d : Int32) (P : Nat) (hpre : hPre w0 P) : ∃ w', cm_C 4 284 [.inr (.inr (some 184)), .inl s, .inl d] w0 (none, w') ∧ hE w0 w' ∧ hTab w0 s d P w' 0 ∧ hTabM w0 s d P w' 0 := by
  obtain ⟨d0, d1, d2, d3, d6, d9, d10, d13, d16, d17, d20, d21, d22, d23, d24, d25, d26, d27, d30, d33, d34, d37, d38, d39, d40, d41, d42, d43, d46, d47, d49, d51, d54, d57, d58, d61, d64, d65, d66, d68, d69, d70, d71, d74, d77, d80, d83, d84, d87, d90, d91, d92, d93, d94, d96, d97, d98, d99, d102, d105, d106, d108, d110, d113, d116, d117, d118, d121, d124, d125, d126, d128, d129, d132, d135, d138, d139, d141, d143, d146, d149, d150, d152, d154, d157, d159, d161, d164, d165, d168, d171, d172, d173, d175, d176, d177, d180, d183, d184, d185, d187, d188, d189, d191, d194, d195, d198, d201, d202, d203, d204, d205, d207, d208, d209, d210, d213, d214, d217, d220, d223, d226, d229, d232⟩ := ht_d
  obtain ⟨m1, m2, gf, gs, af, as_, b1, b2, b3, i1, i2, i3, u1, u2, u3, p1, p2, p3, l1, l2, l3⟩ := ht_m
  obtain ⟨hP, hP6, h10, h14, h4, hst⟩ := id hpre
  have h : ∃ o, cm_C (3 + 1) 284 [.inr (.inr (some 184)), .inl s, .inl d] w0 o ∧ (fun o : cm_O => ∃ w', o = (none, w') ∧ hE w0 w' ∧ hTab w0 s d P w' 0 ∧ hTabM w0 s d P w' 0) o := by
    refine wk_entry (by rw [m1]; exact Nat.le_of_ble_eq_true rfl) ?_
    rw [show cm_ent 284 [.inr (.inr (some 184)), .inl s, .inl d] = [some (.inr (.inr (some 184))), some (.inl s), some (.inl d), none, none, none, none] from by unfold cm_ent; rw [m1]; rfl]
    refine wk_iconst d0 ?_
    refine wk_istore_n d1 (by rw [m1]; rfl) rfl ?_
    refine ht_l1 w0 s d P hP hP6 _ (fun w1 hE1 hz => ?_) 1296 0 w0 rfl (hE_refl w0) (fun u hu => absurd hu (Nat.not_lt_zero _))
    refine wk_aload_n d33 rfl ?_
    refine wk_getR gs d34 ?_
    refine wk_iconst d37 ?_
    refine wk_iaload as_ (by rw [ht_c0]; decide) (by rw [ht_c0]; decide) d38 ?_
    rw [ht_c0]
    show cm_X _ _ _ _ (.inl (w1.1 186 0) :: _) _ _
    rw [show w1.1 186 0 = Int32.ofNat P from hk_of (by rw [hE1.1 186 0 (by decide)]; exact hP) (by omega)]
    refine wk_iconst d39 ?_
    refine wk_isub d40 ?_
    rw [ht_3d P (by omega)]
    refine wk_istore_n d41 (by rw [m1]; rfl) rfl ?_
    exact ht_l5 w0 s d P hpre _ (fun w' a1 a2 a3 => ⟨w', rfl, a1, a2, a3⟩) P none none none w1 (Nat.le_refl _) hE1 ⟨hz, fun m h1 h2 => absurd h2 (by omega)⟩ (fun m h1 h2 => absurd h2 (by omega))
  obtain ⟨o, hC, w', rfl, a1, a2, a3⟩ := h
  exact ⟨w', hC, a1, a2, a3⟩

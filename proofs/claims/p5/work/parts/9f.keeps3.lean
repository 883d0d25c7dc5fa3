/-! ## by hand: keeps of the reference, over any store (wip/p2/gen9e.py) -/
set_option maxRecDepth 100000 in
theorem jty_G : ∀ j, j < 41 → sv_incl (sv_g sg2 192 j) (sv_g sg2 186 (79 + j)) = true := by decide +kernel
set_option maxRecDepth 100000 in
theorem jkp_G : (∀ k, k < 6 → sv_g sg2 186 (94 + k) = sv_top) ∧ (∀ k, k < 6 → sv_g sg2 186 (82 + k) = (2147483648, 2147483847)) ∧ (∀ f, f < 4 → sv_g sg2 186 (25 + f) = (2147483648, 2147483708)) ∧ sv_g sg2 186 79 = (2147483648, 2147484248) ∧ (∀ j, j < 4 → sv_g sg2 186 (100 + j) = (2147483633, 2147483653)) ∧ (∀ j, j < 4 → sv_g sg2 192 (21 + j) = (2147483648, 2147483653)) ∧ sv_g sg2 186 1 = (2147483648, 2147483652) := ⟨by decide +kernel, by decide +kernel, by decide +kernel, by decide +kernel, by decide +kernel, by decide +kernel, by decide +kernel⟩
theorem sv_rn_out {i : Nat} : ∀ {l : List (Nat × Nat × Nat)}, (∀ r ∈ l, r.1 ≤ i) → sv_rn l i = sv_top
  | [], _ => rfl
  | r :: l, h => by
    show cond (Nat.blt i r.1) r.2 (sv_rn l i) = sv_top
    have h1 := h r List.mem_cons_self
    have e : Nat.blt i r.1 = false := by
      cases hb : Nat.blt i r.1 with
      | false => rfl
      | true => exact absurd (ia_blt hb) (by omega)
    rw [e]
    exact sv_rn_out (fun r' hr => h r' (List.mem_cons_of_mem _ hr))
set_option maxRecDepth 100000 in
theorem jsg_r : (∀ k, k < 256 → k ≠ 186 → sv_gr sg k = sv_gr sg2 k) ∧ (∀ i, i < 301 → ¬ (100 ≤ i ∧ i ≤ 103) → sv_g sg 186 i = sv_g sg2 186 i) ∧ (∀ r ∈ sv_gr sg 186, r.1 ≤ 301) ∧ (∀ r ∈ sv_gr sg2 186, r.1 ≤ 301) ∧ sg.length = 16 ∧ sg2.length = 16 := ⟨by decide +kernel, by decide +kernel, by decide +kernel, by decide +kernel, by decide +kernel, by decide +kernel⟩
theorem jsg_eq (k i : Nat) (h : ¬ (k = 186 ∧ 100 ≤ i ∧ i ≤ 103)) : sv_g sg k i = sv_g sg2 k i := by
  obtain ⟨h1, h2, h3, h4, h5, h6⟩ := jsg_r
  by_cases e : k = 186
  · subst e
    rcases Nat.lt_or_ge i 301 with hi | hi
    · exact h2 i hi (fun z => h ⟨rfl, z⟩)
    · unfold sv_g
      rw [sv_rn_out (fun r hr => Nat.le_trans (h3 r hr) hi), sv_rn_out (fun r hr => Nat.le_trans (h4 r hr) hi)]
  · rcases Nat.lt_or_ge k 256 with hk | hk
    · unfold sv_g
      rw [h1 k hk e]
    · unfold sv_g
      have f : ∀ G : sv_GT, G.length = 16 → sv_gr G k = [] := fun G hG => by
        unfold sv_gr ia_get2
        rw [ia_at_eq, List.getElem?_eq_none (show G.length ≤ Nat.div k 16 by rw [hG]; show 16 ≤ k / 16; omega)]
        rfl
      rw [f sg h5, f sg2 h6]
/-- within the bounds, and within the wider ones -/
theorem jsg_to {w : cm_W} (h : sv_w sg w) : sv_w sg2 w := fun k i => by
  by_cases e : k = 186 ∧ 100 ≤ i ∧ i ≤ 103
  · obtain ⟨rfl, e1, e2⟩ := e
    have a := h 186 i
    rw [show i = 100 + (i - 100) from by omega, hb_G.2.2.2.1 (i - 100) (by omega)] at a
    have b := hb_in a
    rw [show i = 100 + (i - 100) from by omega, jkp_G.2.2.2.2.1 (i - 100) (by omega)]
    exact hb_mk (by omega) (by omega)
  · rw [← jsg_eq k i e]
    exact h k i
theorem jsg_of {w : cm_W} (h : sv_w sg2 w) (hs : ∀ f, f < 4 → 0 ≤ (w.1 186 (100 + f)).toInt ∧ (w.1 186 (100 + f)).toInt ≤ 5) : sv_w sg w := fun k i => by
  by_cases e : k = 186 ∧ 100 ≤ i ∧ i ≤ 103
  · obtain ⟨rfl, e1, e2⟩ := e
    have b := hs (i - 100) (by omega)
    rw [show i = 100 + (i - 100) from by omega, hb_G.2.2.2.1 (i - 100) (by omega)]
    exact hb_mk (by omega) (by omega)
  · rw [jsg_eq k i e]
    exact h k i
def jBk (w0 w : cm_W) (j : Nat) : Prop := (∀ k i, ¬ (k = 186 ∧ 79 ≤ i ∧ i < 120) → w.1 k i = w0.1 k i) ∧ (∀ i, i < j → w.1 186 (79 + i) = w0.1 192 i) ∧ (∀ k i, w.2 k i = w0.2 k i) ∧ sv_w sg2 w
theorem jbk_l (w0 : cm_W) : ∀ (n j : Nat) (w : cm_W), n + j = 41 → jBk w0 w j → cm_X (cm_C 0) 93 2 [some (.inr (.inr (some 184))), some (.inl (Int32.ofNat j))] [] w (fun o' => ∃ w', o' = (none, w') ∧ jBk w0 w' 41) := by
  obtain ⟨d0, d1, d2, d3, d5, d8, d9, d12, d14, d15, d16, d17, d20, d21, d22, d23, d26, d29⟩ := hbk_d
  obtain ⟨m1, m2, gs, gb, as_, ab⟩ := hbk_m
  intro n
  induction n with
  | zero =>
    intro j w hj h
    have e : j = 41 := by omega
    subst e
    refine wk_iload_n d2 rfl ?_
    refine wk_bipush d3 ?_
    refine wk_icmp d5 (t := 29) rfl (fun _ => ?_) (fun hc => ?_)
    · exact wk_return d29 m2 ⟨w, rfl, h⟩
    · have := (hk_ge (by omega) hty_c hc).2 rfl
      omega
  | succ n ih =>
    intro j w hj h
    have hix := hty_ix j (by omega)
    have hji : (Int32.ofNat j).toInt = (j : Int) := hk_to j (by omega)
    refine wk_iload_n d2 rfl ?_
    refine wk_bipush d3 ?_
    refine wk_icmp d5 (t := 29) rfl (fun hc => ?_) (fun _ => ?_)
    · have := (hk_ge (by omega) hty_c hc).1 rfl
      omega
    refine wk_aload_n d8 rfl ?_
    refine wk_getR gs d9 ?_
    refine wk_bipush d12 ?_
    refine wk_iload_n d14 rfl ?_
    refine wk_iadd d15 ?_
    refine wk_aload_n d16 rfl ?_
    refine wk_getR gb d17 ?_
    refine wk_iload_n d20 rfl ?_
    refine wk_iaload ab (by rw [hji]; omega) (by rw [hji]; omega) d21 ?_
    rw [hji, show ((j : Nat) : Int).toNat = j from by omega]
    refine wk_iastore as_ (by rw [hix]; omega) (by rw [hix]; omega) d22 ?_
    rw [hix, show ((79 + j : Nat) : Int).toNat = 79 + j from by omega]
    refine wk_iinc d23 (by rw [m1]; rfl) rfl rfl ?_
    refine wk_goto d26 (t := 2) rfl ?_
    rw [hk_inc j (by omega)]
    obtain ⟨a1, a2, a4, a5⟩ := h
    refine ih (j + 1) _ (by omega) ⟨fun k i hk => ?_, fun i hi => ?_, a4, ?_⟩
    · rw [hs_u1_ne (fun z => hk ⟨z.1, by omega, by omega⟩)]
      exact a1 k i hk
    · by_cases e : i = j
      · subst e
        rw [hs_u1_self]
        exact a1 192 i (fun z => absurd z.1 (by decide))
      · rw [hs_u1_ne (fun z => absurd z.2 (by omega))]
        exact a2 i (by omega)
    · exact sv_w_u1 a5 (aw_inc (jty_G j (by omega)) (a5 192 j))
/-- back brings the copy -/
theorem jbk_ok (w0 : cm_W) (hG : sv_w sg2 w0) : ∃ w', cm_C 1 93 [.inr (.inr (some 184))] w0 (none, w') ∧ jBk w0 w' 41 := by
  obtain ⟨d0, d1, d2, d3, d5, d8, d9, d12, d14, d15, d16, d17, d20, d21, d22, d23, d26, d29⟩ := hbk_d
  obtain ⟨m1, m2, gs, gb, as_, ab⟩ := hbk_m
  have h : ∃ o, cm_C (0 + 1) 93 [.inr (.inr (some 184))] w0 o ∧ (fun o' : cm_O => ∃ w', o' = (none, w') ∧ jBk w0 w' 41) o := by
    refine wk_entry (by rw [m1]; exact Nat.le_of_ble_eq_true rfl) ?_
    rw [show cm_ent 93 [.inr (.inr (some 184))] = [some (.inr (.inr (some 184))), none] from by unfold cm_ent; rw [m1]; rfl]
    refine wk_iconst d0 ?_
    refine wk_istore_n d1 (by rw [m1]; rfl) rfl ?_
    exact jbk_l w0 41 0 w0 rfl ⟨fun _ _ _ => rfl, fun i hi => absurd hi (Nat.not_lt_zero _), fun _ _ => rfl, hG⟩
  obtain ⟨o, hC, w', rfl, a⟩ := h
  exact ⟨w', hC, a⟩
/-- what the trial keeps -/
def jKp (wA w : cm_W) : Prop := (∀ k i, ¬ (k = 186 ∧ 79 ≤ i ∧ i < 120) → w.1 k i = wA.1 k i ∧ w.2 k i = wA.2 k i) ∧ sv_w sg2 w ∧ 0 ≤ hSm w
theorem jkp_st {w : cm_W} (hG : sv_w sg2 w) : ∀ j, j < 4 → -15 ≤ (w.1 186 (100 + j)).toInt ∧ (w.1 186 (100 + j)).toInt ≤ 5 := fun j hj => by
  have a := hG 186 (100 + j)
  rw [jkp_G.2.2.2.2.1 j hj] at a
  have := hb_in a
  omega
theorem jsg_sum (f : Nat → Int32) (hf : ∀ j, j < 4 → -15 ≤ (f j).toInt ∧ (f j).toInt ≤ 5) : (hsg f 4 0 (Int32.ofInt 0)).toInt = (f 0).toInt + (f 1).toInt + (f 2).toInt + (f 3).toInt := by
  have h0 := hf 0 (by omega)
  have h1 := hf 1 (by omega)
  have h2 := hf 2 (by omega)
  have h3 := hf 3 (by omega)
  have z : (Int32.ofInt 0).toInt = 0 := by decide
  have e1 : (Int32.ofInt 0 + f 0).toInt = (f 0).toInt := by
    rw [Int32.toInt_add, z, Int.zero_add]
    exact Int.bmod_eq_of_le (by omega) (by omega)
  have e2 : (Int32.ofInt 0 + f 0 + f 1).toInt = (f 0).toInt + (f 1).toInt := by
    rw [Int32.toInt_add, e1]
    exact Int.bmod_eq_of_le (by omega) (by omega)
  have e3 : (Int32.ofInt 0 + f 0 + f 1 + f 2).toInt = (f 0).toInt + (f 1).toInt + (f 2).toInt := by
    rw [Int32.toInt_add, e2]
    exact Int.bmod_eq_of_le (by omega) (by omega)
  show (Int32.ofInt 0 + f 0 + f 1 + f 2 + f 3).toInt = _
  rw [Int32.toInt_add, e3]
  exact Int.bmod_eq_of_le (by omega) (by omega)
theorem jea_in {wA w : cm_W} {k m : Nat} (hk : k < 6) (hm : m < 4) (hpos : 0 < hSm w) (h : jKp wA w) : jKp wA (hea w k m) ∧ hSm (hea w k m) = hSm w - 1 := by
  obtain ⟨a1, a2, a3⟩ := h
  obtain ⟨g1, g2, g3, -, g5, -⟩ := jkp_G
  have hst := jkp_st a2
  have s0 := hst 0 (by omega)
  have s1 := hst 1 (by omega)
  have s2 := hst 2 (by omega)
  have s3 := hst 3 (by omega)
  have hm' : m = 0 ∨ m = 1 ∨ m = 2 ∨ m = 3 := by omega
  have hlow : -14 ≤ (w.1 186 (100 + m)).toInt := by
    unfold hSm at hpos
    rcases hm' with rfl | rfl | rfl | rfl <;> omega
  have hs : (w.1 186 (100 + m) - Int32.ofInt 1).toInt = (w.1 186 (100 + m)).toInt - 1 := aw_sub rfl (by decide) (by omega) (by have := Int32.toInt_lt (w.1 186 (100 + m)); omega)
  have hsum : hSm (hea w k m) = hSm w - 1 := by
    unfold hSm
    rw [hea_st hk hm 0 (by omega), hea_st hk hm 1 (by omega), hea_st hk hm 2 (by omega), hea_st hk hm 3 (by omega)]
    rcases hm' with rfl | rfl | rfl | rfl
    · rw [if_pos rfl, if_neg (by decide), if_neg (by decide), if_neg (by decide)]; omega
    · rw [if_neg (by decide), if_pos rfl, if_neg (by decide), if_neg (by decide)]; omega
    · rw [if_neg (by decide), if_neg (by decide), if_pos rfl, if_neg (by decide)]; omega
    · rw [if_neg (by decide), if_neg (by decide), if_neg (by decide), if_pos rfl]; omega
  refine ⟨⟨fun a b hab => ?_, ?_, by omega⟩, hsum⟩
  · refine ⟨?_, (a1 a b hab).2⟩
    unfold hea hea2 hea1
    rw [hs_u1_ne (fun z => hab ⟨z.1, by omega, by omega⟩), hs_u1_ne (fun z => hab ⟨z.1, by omega, by omega⟩), hs_u1_ne (fun z => hab ⟨z.1, by omega, by omega⟩)]
    exact (a1 a b hab).1
  · have c1 : sv_w sg2 (hea1 w m) := by
      refine sv_w_u1 a2 ?_
      rw [g5 m hm]
      have := hst m hm
      exact hb_mk (by omega) (by omega)
    have c2 : sv_w sg2 (hea2 w k m) := by
      refine sv_w_u1 c1 ?_
      rw [g1 k hk]
      exact sv_in_top _
    refine sv_w_u1 c2 ?_
    have x1 := c2 186 (82 + k)
    have x2 := c2 186 (25 + m)
    rw [g2 k hk] at x1 ⊢
    rw [g3 m hm] at x2
    have y1 := hb_in x1
    have y2 := hb_in x2
    have e : ((hea2 w k m).1 186 (82 + k) - (hea2 w k m).1 186 (25 + m)).toInt = ((hea2 w k m).1 186 (82 + k)).toInt - ((hea2 w k m).1 186 (25 + m)).toInt := by
      rw [Int32.toInt_sub]
      exact Int.bmod_eq_of_le (by omega) (by omega)
    by_cases hc : (hea2 w k m).1 186 (82 + k) - (hea2 w k m).1 186 (25 + m) < Int32.ofInt 0
    · rw [if_pos hc]
      exact hb_mk (by decide) (by decide)
    · rw [if_neg hc]
      rw [Int32.lt_iff_toInt_lt, ht_c0] at hc
      exact hb_mk (by omega) (by omega)
/-- whoHas changes nothing -/
theorem jwh_ok (w : cm_W) (s : Int32) (hG : sv_w sg2 w) : ∃ x, cm_C 3 151 [.inr (.inr (some 184)), .inl s] w (some (.inl x), w) ∧ -1 ≤ x.toInt ∧ x.toInt ≤ 5 := by
  obtain ⟨r, w', hC, hG', hF, q, hq, hr, -, -⟩ := wk_use (d := 3) sn_151_579b40b6_ok (by decide) (as := [.inr (.inr (some 184)), .inl s]) (w := w) ⟨rfl, sv_in_top _, trivial⟩ (fun f hf => by cases hf) hG
  have ew : w' = w := Prod.ext (funext fun k => funext fun i => (hF k i (fun ⟨r, z, _⟩ => by cases z)).1) (funext fun k => funext fun i => (hF k i (fun ⟨r, z, _⟩ => by cases z)).2)
  rw [ew] at hC
  rcases List.mem_cons.mp hq with rfl | hq
  · obtain ⟨x, rfl, hx⟩ := wk_int hr
    have := hb_in hx
    exact ⟨x, hC, by omega, by omega⟩
  · rcases List.mem_cons.mp hq with rfl | hq
    · obtain ⟨x, rfl, hx⟩ := wk_int hr
      have := hb_in hx
      exact ⟨x, hC, by omega, by omega⟩
    · cases hq
/-- all eat as long as there is food -/
theorem jkp_l1 (s c fl : Int32) (F : Nat) (hF4 : F ≤ 4) (wA : cm_W) (hF : (wA.1 186 1).toInt = (F : Int)) (Q : cm_O → Prop) (hk : ∀ w, jKp wA w → cm_X (cm_C 5) 122 64 [some (.inr (.inr (some 184))), some (.inl s), some (.inl c), some (.inl fl)] [] w Q) : ∀ (n : Nat) (w : cm_W), hSm w < (n : Int) → jKp wA w → cm_X (cm_C 5) 122 30 [some (.inr (.inr (some 184))), some (.inl s), some (.inl c), some (.inl fl)] [] w Q := by
  obtain ⟨d0, d1, d2, d5, d6, d7, d10, d13, d16, d17, d18, d19, d22, d23, d24, d25, d26, d27, d30, d31, d32, d35, d38, d39, d41, d42, d45, d48, d49, d50, d51, d54, d55, d58, d61, d64, d65, d66, d69, d72, d73, d76, d79, d80, d81, d84, d85, d88, d89, d92, d93, d94, d95, d96, d99, d100, d103, d104, d105, d106, d109, d110, d113, d114⟩ := hkp_d
  obtain ⟨m1, m2, pt, i1, i2, i3, t1, t2, t3, w1_, w2_, w3_, s1, s2, s3, o1, o2, o3, e1_, e2_, e3_, g1, g2, g3, b1, b2, b3, rt, rw_, rs, ro, re_, rg, rb⟩ := hkp_m
  intro n
  induction n with
  | zero =>
    intro w hn h
    have := h.2.2
    omega
  | succ n ih =>
    intro w hn h
    obtain ⟨x, hC, hx1, hx2⟩ := jwh_ok w s h.2.1
    refine wk_aload_n d30 rfl ?_
    refine wk_iload_n d31 rfl ?_
    refine wk_call (kd := 0) (i := 375) d32 rfl (wk_cal (as := [.inr (.inr (some 184)), .inl s]) (t := []) w1_ rfl w2_ w3_ rfl rfl rw_ rfl) (cm_C_mono (by decide) hC) ?_
    refine wk_if d35 (t := 64) rfl (fun _ => hk w h) (fun hc => ?_)
    have hx0 := (hb_lt hc).2 rfl
    rw [hb_z] at hx0
    refine wk_aload_n d38 rfl ?_
    refine wk_bipush d39 ?_
    refine wk_iconst d41 ?_
    refine wk_call (kd := 0) (i := 291) d42 rfl (wk_cal (as := [.inr (.inr (some 184)), .inl (Int8.ofInt 100).toInt32, .inl (Int32.ofInt 4)]) (t := []) s1 rfl s2 s3 rfl rfl rs rfl) (cm_C_mono (by decide) (hsu_ok w)) ?_
    refine wk_if d45 (t := 64) rfl (fun _ => hk w h) (fun hc2 => ?_)
    have hst := jkp_st h.2.1
    have hsm : (hsg (fun j => w.1 186 (100 + j)) 4 0 (Int32.ofInt 0)).toInt = hSm w := jsg_sum _ hst
    have hpos : 0 < hSm w := by
      rw [← hsm]
      have e : cm_cmp .le (hsg (fun j => w.1 186 (100 + j)) 4 0 (Int32.ofInt 0)) 0 = !(cm_cmp .lt 0 (hsg (fun j => w.1 186 (100 + j)) 4 0 (Int32.ofInt 0))) := rfl
      rw [e] at hc2
      have := (hb_lt (b := true) (x := 0) (z := hsg (fun j => w.1 186 (100 + j)) 4 0 (Int32.ofInt 0)) (by cases hh : cm_cmp .lt 0 (hsg (fun j => w.1 186 (100 + j)) 4 0 (Int32.ofInt 0)) with | false => rw [hh] at hc2; cases hc2 | true => rfl)).1 rfl
      rw [hb_z] at this
      exact this
    obtain ⟨m, hCm, hm4, hmx⟩ := hmo_ok w F (by rw [(h.1 186 1 (by omega)).1]; exact hF) hF4
    have ex : x = Int32.ofNat x.toInt.toNat := hk_of (by omega) (by omega)
    rw [ex] at hC
    obtain ⟨q1, q2⟩ := jea_in (k := x.toInt.toNat) (by omega) hm4 hpos h
    refine wk_aload_n d48 rfl ?_
    refine wk_aload_n d49 rfl ?_
    refine wk_iload_n d50 rfl ?_
    refine wk_call (kd := 0) (i := 375) d51 rfl (wk_cal (as := [.inr (.inr (some 184)), .inl s]) (t := [.inr (.inr (some 184))]) w1_ rfl w2_ w3_ rfl rfl rw_ rfl) (cm_C_mono (by decide) hC) ?_
    refine wk_aload_n d54 rfl ?_
    refine wk_call (kd := 0) (i := 378) d55 rfl (wk_cal (as := [.inr (.inr (some 184))]) (t := [.inl (Int32.ofNat x.toInt.toNat), .inr (.inr (some 184))]) o1 rfl o2 o3 rfl rfl ro rfl) (cm_C_mono (by decide) hCm) ?_
    refine wk_call (kd := 0) (i := 309) d58 rfl (wk_cal (as := [.inr (.inr (some 184)), .inl (Int32.ofNat x.toInt.toNat), .inl (Int32.ofNat m)]) (t := []) e1_ rfl e2_ e3_ rfl rfl re_ rfl) (cm_C_mono (by decide) (hea_ok w x.toInt.toNat m (by omega) hm4)) ?_
    refine wk_goto d61 (t := 30) rfl ?_
    exact ih _ (by omega) q1
/-- goesOn(1) leaves the store -/
theorem jgo_ok {wA w : cm_W} (h : jKp wA w) : ∃ x w', cm_C 5 108 [.inr (.inr (some 184)), .inl (Int32.ofInt 1)] w (some (.inl x), w') ∧ jKp wA w' := by
  obtain ⟨a1, a2, a3⟩ := h
  have h79 := a2 186 79
  rw [jkp_G.2.2.2.1] at h79
  obtain ⟨r, w', hC, hG', hF, q, hq, hr, -, -⟩ := wk_use (d := 5) sn_108_aeaca9c0_ok (by decide) (as := [.inr (.inr (some 184)), .inl (Int32.ofInt 1)]) (w := w) ⟨rfl, hb_mk (lo := 2147483649) (hi := 2147483649) (by decide) (by decide), trivial⟩ (fun f hf => by
    rcases List.mem_cons.mp hf with rfl | hf
    · exact ⟨h79, .inr (Nat.le_refl _), .inl rfl⟩
    · cases hf) a2
  have hfr : ∀ k i, ¬ (k = 186 ∧ (i = 79 ∨ (81 ≤ i ∧ i ≤ 93) ∨ (110 ≤ i ∧ i ≤ 119))) → w'.1 k i = w.1 k i ∧ w'.2 k i = w.2 k i := fun k i hki => hF k i (fun ⟨r, z, z1, z2, z3⟩ => by
    simp only [sn_108_aeaca9c0, List.mem_cons, List.not_mem_nil, or_false] at z
    rcases z with rfl | rfl | rfl
    · exact hki ⟨z1.symm, .inl (by simp only at z2 z3; omega)⟩
    · exact hki ⟨z1.symm, .inr (.inl ⟨z2, z3⟩)⟩
    · exact hki ⟨z1.symm, .inr (.inr ⟨z2, z3⟩)⟩)
  have hk : jKp wA w' := by
    refine ⟨fun k i hki => ?_, hG', ?_⟩
    · have e := hfr k i (fun z => hki ⟨z.1, by omega, by omega⟩)
      have e2 := a1 k i hki
      exact ⟨e.1.trans e2.1, e.2.trans e2.2⟩
    · unfold hSm
      rw [(hfr 186 (100 + 0) (by omega)).1, (hfr 186 (100 + 1) (by omega)).1, (hfr 186 (100 + 2) (by omega)).1, (hfr 186 (100 + 3) (by omega)).1]
      exact a3
  rcases List.mem_cons.mp hq with rfl | hq
  · obtain ⟨x, rfl, hx⟩ := wk_int hr
    exact ⟨x, w', hC, hk⟩
  · rcases List.mem_cons.mp hq with rfl | hq
    · obtain ⟨x, rfl, hx⟩ := wk_int hr
      exact ⟨x, w', hC, hk⟩
    · cases hq
/-- its end -/
theorem jkp_end (s c : Int32) (wA w2 : cm_W) (h : jKp wA w2) (Q : cm_O → Prop) (hk : ∀ w3, jBk w2 w3 41 → Q (some (.inl c), w3)) : cm_X (cm_C 5) 122 26 [some (.inr (.inr (some 184))), some (.inl s), some (.inl c), some (.inl (Int32.ofInt 0))] [] w2 Q := by
  obtain ⟨d0, d1, d2, d5, d6, d7, d10, d13, d16, d17, d18, d19, d22, d23, d24, d25, d26, d27, d30, d31, d32, d35, d38, d39, d41, d42, d45, d48, d49, d50, d51, d54, d55, d58, d61, d64, d65, d66, d69, d72, d73, d76, d79, d80, d81, d84, d85, d88, d89, d92, d93, d94, d95, d96, d99, d100, d103, d104, d105, d106, d109, d110, d113, d114⟩ := hkp_d
  obtain ⟨m1, m2, pt, i1, i2, i3, t1, t2, t3, w1_, w2_, w3_, s1, s2, s3, o1, o2, o3, e1_, e2_, e3_, g1, g2, g3, b1, b2, b3, rt, rw_, rs, ro, re_, rg, rb⟩ := hkp_m
  obtain ⟨w3, hC, h3⟩ := jbk_ok w2 h.2.1
  refine wk_iload_n d26 rfl ?_
  refine wk_if d27 (t := 109) rfl (fun _ => ?_) (fun hc => absurd hc (by decide))
  refine wk_aload_n d109 rfl ?_
  refine wk_call (kd := 0) (i := 366) d110 rfl (wk_cal (as := [.inr (.inr (some 184))]) (t := []) b1 rfl b2 b3 rfl rfl rb rfl) (cm_C_mono (by decide) hC) ?_
  refine wk_iload_n d113 rfl ?_
  exact wk_ireturn d114 m2 rfl (hk w3 h3)
/-- hour by hour -/
theorem jkp_l2 (s : Int32) (F : Nat) (hF4 : F ≤ 4) (wA : cm_W) (hF : (wA.1 186 1).toInt = (F : Int)) (Q : cm_O → Prop) (hk : ∀ c w2 w3, jKp wA w2 → jBk w2 w3 41 → Q (some (.inl c), w3)) : ∀ (n c : Nat) (w : cm_W), n + c = 200 → jKp wA w → cm_X (cm_C 5) 122 26 [some (.inr (.inr (some 184))), some (.inl s), some (.inl (Int32.ofNat c)), some (.inl (Int32.ofInt 1))] [] w Q := by
  obtain ⟨d0, d1, d2, d5, d6, d7, d10, d13, d16, d17, d18, d19, d22, d23, d24, d25, d26, d27, d30, d31, d32, d35, d38, d39, d41, d42, d45, d48, d49, d50, d51, d54, d55, d58, d61, d64, d65, d66, d69, d72, d73, d76, d79, d80, d81, d84, d85, d88, d89, d92, d93, d94, d95, d96, d99, d100, d103, d104, d105, d106, d109, d110, d113, d114⟩ := hkp_d
  obtain ⟨m1, m2, pt, i1, i2, i3, t1, t2, t3, w1_, w2_, w3_, s1, s2, s3, o1, o2, o3, e1_, e2_, e3_, g1, g2, g3, b1, b2, b3, rt, rw_, rs, ro, re_, rg, rb⟩ := hkp_m
  intro n
  induction n with
  | zero =>
    intro c w hc0 h
    refine wk_iload_n d26 rfl ?_
    refine wk_if d27 (t := 109) rfl (fun hc => absurd hc (by decide)) (fun _ => ?_)
    refine jkp_l1 s _ _ F hF4 wA hF Q (fun w h => ?_) 21 w (by
      have a := jkp_st h.2.1
      have a0 := a 0 (by omega)
      have a1 := a 1 (by omega)
      have a2 := a 2 (by omega)
      have a3 := a 3 (by omega)
      unfold hSm
      omega) h
    obtain ⟨x, hC, hx1, hx2⟩ := jwh_ok w s h.2.1
    refine wk_aload_n d64 rfl ?_
    refine wk_iload_n d65 rfl ?_
    refine wk_call (kd := 0) (i := 375) d66 rfl (wk_cal (as := [.inr (.inr (some 184)), .inl s]) (t := []) w1_ rfl w2_ w3_ rfl rfl rw_ rfl) (cm_C_mono (by decide) hC) ?_
    have out : cm_X (cm_C 5) 122 92 [some (.inr (.inr (some 184))), some (.inl s), some (.inl (Int32.ofNat c)), some (.inl (Int32.ofInt 1))] [] w Q := by
      refine wk_iconst d92 ?_
      refine wk_istore_n d93 (by rw [m1]; rfl) rfl ?_
      refine wk_iload_n d94 rfl ?_
      refine wk_iload_n d95 rfl ?_
      refine wk_if d96 (t := 103) rfl (fun _ => ?_) (fun hc => absurd hc (by decide))
      refine wk_iconst d103 ?_
      refine wk_iadd d104 ?_
      refine wk_istore_n d105 (by rw [m1]; rfl) rfl ?_
      refine wk_goto d106 (t := 26) rfl ?_
      exact jkp_end s _ wA w h Q (fun w3 h3 => hk _ w w3 h h3)
    refine wk_if d69 (t := 92) rfl (fun _ => out) (fun _ => ?_)
    refine wk_iload_n d72 rfl ?_
    refine wk_sipush d73 ?_
    refine wk_icmp d76 (t := 92) rfl (fun _ => out) (fun hc => ?_)
    have := (hk_ge (by omega) hkp_c2 hc).2 rfl
    omega
  | succ n ih =>
    intro c w hc0 h
    refine wk_iload_n d26 rfl ?_
    refine wk_if d27 (t := 109) rfl (fun hc => absurd hc (by decide)) (fun _ => ?_)
    refine jkp_l1 s _ _ F hF4 wA hF Q (fun w h => ?_) 21 w (by
      have a := jkp_st h.2.1
      have a0 := a 0 (by omega)
      have a1 := a 1 (by omega)
      have a2 := a 2 (by omega)
      have a3 := a 3 (by omega)
      unfold hSm
      omega) h
    obtain ⟨x, hC, hx1, hx2⟩ := jwh_ok w s h.2.1
    refine wk_aload_n d64 rfl ?_
    refine wk_iload_n d65 rfl ?_
    refine wk_call (kd := 0) (i := 375) d66 rfl (wk_cal (as := [.inr (.inr (some 184)), .inl s]) (t := []) w1_ rfl w2_ w3_ rfl rfl rw_ rfl) (cm_C_mono (by decide) hC) ?_
    have out : ∀ w, jKp wA w → cm_X (cm_C 5) 122 92 [some (.inr (.inr (some 184))), some (.inl s), some (.inl (Int32.ofNat c)), some (.inl (Int32.ofInt 1))] [] w Q := fun w h => by
      refine wk_iconst d92 ?_
      refine wk_istore_n d93 (by rw [m1]; rfl) rfl ?_
      refine wk_iload_n d94 rfl ?_
      refine wk_iload_n d95 rfl ?_
      refine wk_if d96 (t := 103) rfl (fun _ => ?_) (fun hc => absurd hc (by decide))
      refine wk_iconst d103 ?_
      refine wk_iadd d104 ?_
      refine wk_istore_n d105 (by rw [m1]; rfl) rfl ?_
      refine wk_goto d106 (t := 26) rfl ?_
      exact jkp_end s _ wA w h Q (fun w3 h3 => hk _ w w3 h h3)
    refine wk_if d69 (t := 92) rfl (fun _ => out w h) (fun _ => ?_)
    refine wk_iload_n d72 rfl ?_
    refine wk_sipush d73 ?_
    refine wk_icmp d76 (t := 92) rfl (fun _ => out w h) (fun _ => ?_)
    obtain ⟨x2, w2, hC2, h2⟩ := jgo_ok h
    refine wk_aload_n d79 rfl ?_
    refine wk_iconst d80 ?_
    refine wk_call (kd := 0) (i := 313) d81 rfl (wk_cal (as := [.inr (.inr (some 184)), .inl (Int32.ofInt 1)]) (t := []) g1 rfl g2 g3 rfl rfl rg rfl) hC2 ?_
    refine wk_iconst d84 ?_
    refine wk_icmp d85 (t := 92) rfl (fun _ => out w2 h2) (fun _ => ?_)
    refine wk_iconst d88 ?_
    refine wk_goto d89 (t := 93) rfl ?_
    refine wk_istore_n d93 (by rw [m1]; rfl) rfl ?_
    refine wk_iload_n d94 rfl ?_
    refine wk_iload_n d95 rfl ?_
    refine wk_if d96 (t := 103) rfl (fun hc => absurd hc (by decide)) (fun _ => ?_)
    refine wk_iconst d99 ?_
    refine wk_goto d100 (t := 104) rfl ?_
    refine wk_iadd d104 ?_
    refine wk_istore_n d105 (by rw [m1]; rfl) rfl ?_
    refine wk_goto d106 (t := 26) rfl ?_
    rw [hk_inc c (by omega)]
    exact ih (c + 1) w2 (by omega) h2
/-- keeps of the reference ends, and leaves the valley as it was -/
theorem jkp_ok (w : cm_W) (s : Int32) (hG : sv_w sg w) : ∃ x w', cm_C 6 122 [.inr (.inr (some 184)), .inl s] w (some (.inl x), w') ∧ sv_w sg w' ∧ ∀ k i, k ≠ 192 → ¬ (k = 184 ∧ i = 0) → w'.1 k i = w.1 k i := by
  obtain ⟨d0, d1, d2, d5, d6, d7, d10, d13, d16, d17, d18, d19, d22, d23, d24, d25, d26, d27, d30, d31, d32, d35, d38, d39, d41, d42, d45, d48, d49, d50, d51, d54, d55, d58, d61, d64, d65, d66, d69, d72, d73, d76, d79, d80, d81, d84, d85, d88, d89, d92, d93, d94, d95, d96, d99, d100, d103, d104, d105, d106, d109, d110, d113, d114⟩ := hkp_d
  obtain ⟨m1, m2, pt, i1, i2, i3, t1, t2, t3, w1_, w2_, w3_, s1, s2, s3, o1, o2, o3, e1_, e2_, e3_, g1, g2, g3, b1, b2, b3, rt, rw_, rs, ro, re_, rg, rb⟩ := hkp_m
  have h : ∃ o, cm_C (5 + 1) 122 [.inr (.inr (some 184)), .inl s] w o ∧ (fun o : cm_O => ∃ x w', o = (some (.inl x), w') ∧ sv_w sg w' ∧ ∀ k i, k ≠ 192 → ¬ (k = 184 ∧ i = 0) → w'.1 k i = w.1 k i) o := by
    refine wk_entry (by rw [m1]; exact Nat.le_of_ble_eq_true rfl) ?_
    rw [show cm_ent 122 [.inr (.inr (some 184)), .inl s] = [some (.inr (.inr (some 184))), some (.inl s), none, none] from by unfold cm_ent; rw [m1]; rfl]
    refine wk_aload_n d0 rfl ?_
    refine wk_iconst d1 ?_
    refine wk_putI pt (fun ci => wk_fitI ci) d2 ?_
    have hG0 : sv_w sg (cm_u1 w 184 0 (Int32.ofInt 0)) := sv_w_u1 hG (by rw [hb_G.2.2.2.2.1]; exact hb_mk (by decide) (by decide))
    have hF0 : ∀ k i, ¬ (k = 184 ∧ i = 0) → (cm_u1 w 184 0 (Int32.ofInt 0)).1 k i = w.1 k i := fun k i hki => hs_u1_ne hki
    generalize cm_u1 w 184 0 (Int32.ofInt 0) = w0 at hG0 hF0 ⊢
    refine wk_iload_n d5 rfl ?_
    refine wk_iconst d6 ?_
    refine wk_sipush d7 ?_
    obtain ⟨r, w', hC, hG', hF, q, hq, hr, -, -⟩ := wk_use (d := 5) sm_115_8d658d68_ok (by decide) (as := [.inl s, .inl (Int32.ofInt 1), .inl (Int16.ofInt 199).toInt32]) (w := w0) ⟨sv_in_top _, hb_mk (lo := 2147483649) (hi := 2147483649) (by decide) (by decide), hb_mk (lo := 2147483847) (hi := 2147483847) (by decide) (by decide), trivial⟩ (fun f hf => by cases hf) hG0
    have ew : w' = w0 := Prod.ext (funext fun k => funext fun i => (hF k i (fun ⟨r, z, _⟩ => by cases z)).1) (funext fun k => funext fun i => (hF k i (fun ⟨r, z, _⟩ => by cases z)).2)
    rw [ew] at hC
    obtain ⟨x2, rfl⟩ : ∃ x2, r = some (.inl x2) := by
      have hall : ∀ q ∈ sm_115_8d658d68.2.2.2.2.2.2, ∃ lo hi, q.1 = some (.inl (lo, hi, 0, 0, 0)) := by
        intro q hq
        simp only [sm_115_8d658d68, List.mem_cons, List.not_mem_nil, or_false] at hq
        rcases hq with rfl | rfl | rfl <;> exact ⟨_, _, rfl⟩
      obtain ⟨lo, hi, e⟩ := hall q hq
      rw [e] at hr
      obtain ⟨x2, h, -⟩ := wk_int hr
      exact ⟨x2, h⟩
    refine wk_call (kd := 1) (i := 182) d10 rfl (wk_cal (as := [.inl s, .inl (Int32.ofInt 1), .inl (Int16.ofInt 199).toInt32]) (t := []) i1 rfl i2 i3 rfl rfl rfl rfl) hC ?_
    refine wk_if d13 (t := 18) rfl (fun _ => ?_) (fun _ => ?_)
    rotate_left
    · refine wk_iconst d16 ?_
      exact wk_ireturn d17 m2 rfl ⟨_, w0, rfl, hG0, fun k i _ hki => hF0 k i hki⟩
    obtain ⟨wA, hCA, c1, c2, c3, c4, c5⟩ := hty_ok w0 hG0
    refine wk_aload_n d18 rfl ?_
    refine wk_call (kd := 0) (i := 363) d19 rfl (wk_cal (as := [.inr (.inr (some 184))]) (t := []) t1 rfl t2 t3 rfl rfl rt rfl) (cm_C_mono (by decide) hCA) ?_
    refine wk_iconst d22 ?_
    refine wk_istore_n d23 (by rw [m1]; rfl) rfl ?_
    refine wk_iconst d24 ?_
    refine wk_istore_n d25 (by rw [m1]; rfl) rfl ?_
    have b1' := c5 186 1
    rw [hb_G.2.1] at b1'
    have b1'' := hb_in b1'
    have eA : ∀ i, wA.1 186 i = w.1 186 i := fun i => (c1 186 i (by decide)).trans (hF0 186 i (fun z => absurd z.1 (by decide)))
    refine jkp_l2 s (wA.1 186 1).toInt.toNat (by omega) wA (by omega) _ (fun c w2 w3 h2 h3 => ?_) 200 0 wA rfl ⟨fun _ _ _ => ⟨rfl, rfl⟩, jsg_to c5, ?_⟩
    · have ha : ∀ k i, k ≠ 192 → ¬ (k = 184 ∧ i = 0) → w3.1 k i = w.1 k i := fun k i hk hki => by
        by_cases e : k = 186 ∧ 79 ≤ i ∧ i < 120
        · obtain ⟨rfl, e1, e2⟩ := e
          have := h3.2.1 (i - 79) (by omega)
          rw [show 79 + (i - 79) = i from by omega] at this
          rw [this, (h2.1 192 (i - 79) (fun z => absurd z.1 (by decide))).1, c2 (i - 79) (by omega), show 79 + (i - 79) = i from by omega]
          exact hF0 186 i hki
        · rw [h3.1 k i e, (h2.1 k i e).1, c1 k i hk]
          exact hF0 k i hki
      refine ⟨_, w3, rfl, jsg_of h3.2.2.2 (fun f hf => ?_), ha⟩
      have g := hG 186 (100 + f)
      rw [hb_G.2.2.2.1 f hf] at g
      have g := hb_in g
      rw [ha 186 (100 + f) (by decide) (fun z => absurd z.1 (by decide))]
      omega
    · have a := hkp_st c5
      have a0 := a 0 (by omega)
      have a1 := a 1 (by omega)
      have a2 := a 2 (by omega)
      have a3 := a 3 (by omega)
      unfold hSm
      omega
  obtain ⟨o, hC, x, w', rfl, a1, a2⟩ := h
  exact ⟨x, w', hC, a1, a2⟩

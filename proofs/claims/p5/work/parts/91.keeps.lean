/-! ## by hand: keeps of the reference (wip/p2/gentab12.py) -/
set_option maxRecDepth 100000 in
theorem hkp_d : decode (ia_code 122) 0 = .ok (.aload_n 0, 1) ∧ decode (ia_code 122) 1 = .ok (.iconst 0, 1) ∧ decode (ia_code 122) 2 = .ok (.putfield 1, 3) ∧ decode (ia_code 122) 5 = .ok (.iload_n 1, 1) ∧ decode (ia_code 122) 6 = .ok (.iconst 1, 1) ∧ decode (ia_code 122) 7 = .ok (.sipush 199, 3) ∧ decode (ia_code 122) 10 = .ok (.invokestatic 182, 3) ∧ decode (ia_code 122) 13 = .ok (.ifCond .ne 5, 3) ∧ decode (ia_code 122) 16 = .ok (.iconst (-1), 1) ∧ decode (ia_code 122) 17 = .ok (.ireturn, 1) ∧ decode (ia_code 122) 18 = .ok (.aload_n 0, 1) ∧ decode (ia_code 122) 19 = .ok (.invokevirtual 363, 3) ∧ decode (ia_code 122) 22 = .ok (.iconst 0, 1) ∧ decode (ia_code 122) 23 = .ok (.istore_n 2, 1) ∧ decode (ia_code 122) 24 = .ok (.iconst 1, 1) ∧ decode (ia_code 122) 25 = .ok (.istore_n 3, 1) ∧ decode (ia_code 122) 26 = .ok (.iload_n 3, 1) ∧ decode (ia_code 122) 27 = .ok (.ifCond .eq 82, 3) ∧ decode (ia_code 122) 30 = .ok (.aload_n 0, 1) ∧ decode (ia_code 122) 31 = .ok (.iload_n 1, 1) ∧ decode (ia_code 122) 32 = .ok (.invokevirtual 375, 3) ∧ decode (ia_code 122) 35 = .ok (.ifCond .lt 29, 3) ∧ decode (ia_code 122) 38 = .ok (.aload_n 0, 1) ∧ decode (ia_code 122) 39 = .ok (.bipush 100, 2) ∧ decode (ia_code 122) 41 = .ok (.iconst 4, 1) ∧ decode (ia_code 122) 42 = .ok (.invokevirtual 291, 3) ∧ decode (ia_code 122) 45 = .ok (.ifCond .le 19, 3) ∧ decode (ia_code 122) 48 = .ok (.aload_n 0, 1) ∧ decode (ia_code 122) 49 = .ok (.aload_n 0, 1) ∧ decode (ia_code 122) 50 = .ok (.iload_n 1, 1) ∧ decode (ia_code 122) 51 = .ok (.invokevirtual 375, 3) ∧ decode (ia_code 122) 54 = .ok (.aload_n 0, 1) ∧ decode (ia_code 122) 55 = .ok (.invokevirtual 378, 3) ∧ decode (ia_code 122) 58 = .ok (.invokevirtual 309, 3) ∧ decode (ia_code 122) 61 = .ok (.goto (-31), 3) ∧ decode (ia_code 122) 64 = .ok (.aload_n 0, 1) ∧ decode (ia_code 122) 65 = .ok (.iload_n 1, 1) ∧ decode (ia_code 122) 66 = .ok (.invokevirtual 375, 3) ∧ decode (ia_code 122) 69 = .ok (.ifCond .ge 23, 3) ∧ decode (ia_code 122) 72 = .ok (.iload_n 2, 1) ∧ decode (ia_code 122) 73 = .ok (.sipush 200, 3) ∧ decode (ia_code 122) 76 = .ok (.if_icmp .ge 16, 3) ∧ decode (ia_code 122) 79 = .ok (.aload_n 0, 1) ∧ decode (ia_code 122) 80 = .ok (.iconst 1, 1) ∧ decode (ia_code 122) 81 = .ok (.invokevirtual 313, 3) ∧ decode (ia_code 122) 84 = .ok (.iconst 1, 1) ∧ decode (ia_code 122) 85 = .ok (.if_icmp .ne 7, 3) ∧ decode (ia_code 122) 88 = .ok (.iconst 1, 1) ∧ decode (ia_code 122) 89 = .ok (.goto 4, 3) ∧ decode (ia_code 122) 92 = .ok (.iconst 0, 1) ∧ decode (ia_code 122) 93 = .ok (.istore_n 3, 1) ∧ decode (ia_code 122) 94 = .ok (.iload_n 2, 1) ∧ decode (ia_code 122) 95 = .ok (.iload_n 3, 1) ∧ decode (ia_code 122) 96 = .ok (.ifCond .eq 7, 3) ∧ decode (ia_code 122) 99 = .ok (.iconst 1, 1) ∧ decode (ia_code 122) 100 = .ok (.goto 4, 3) ∧ decode (ia_code 122) 103 = .ok (.iconst 0, 1) ∧ decode (ia_code 122) 104 = .ok (.iadd, 1) ∧ decode (ia_code 122) 105 = .ok (.istore_n 2, 1) ∧ decode (ia_code 122) 106 = .ok (.goto (-80), 3) ∧ decode (ia_code 122) 109 = .ok (.aload_n 0, 1) ∧ decode (ia_code 122) 110 = .ok (.invokevirtual 366, 3) ∧ decode (ia_code 122) 113 = .ok (.iload_n 2, 1) ∧ decode (ia_code 122) 114 = .ok (.ireturn, 1) := by
  refine ⟨?_, ?_, ?_, ?_, ?_, ?_, ?_, ?_, ?_, ?_, ?_, ?_, ?_, ?_, ?_, ?_, ?_, ?_, ?_, ?_, ?_, ?_, ?_, ?_, ?_, ?_, ?_, ?_, ?_, ?_, ?_, ?_, ?_, ?_, ?_, ?_, ?_, ?_, ?_, ?_, ?_, ?_, ?_, ?_, ?_, ?_, ?_, ?_, ?_, ?_, ?_, ?_, ?_, ?_, ?_, ?_, ?_, ?_, ?_, ?_, ?_, ?_, ?_, ?_⟩ <;> decide +kernel
set_option maxRecDepth 100000 in
theorem hkp_m : ia_maxL 122 = 4 ∧ ia_ret 122 = some .int ∧ wk_pf 122 1 184 0 0 = true ∧ ia_pl (ia_cls 122) 182 = some (1, 115, 1, 0, 1687) ∧ ia_na 115 = 3 ∧ (ia_mc 115 = 0 ∧ ia_ms 115 = 0) ∧ ia_pl (ia_cls 122) 363 = some (1, 147, 0, 0, 1943) ∧ ia_na 147 = 1 ∧ (ia_mc 147 = 0 ∧ ia_ms 147 = 0) ∧ ia_pl (ia_cls 122) 375 = some (1, 151, 0, 0, 1975) ∧ ia_na 151 = 2 ∧ (ia_mc 151 = 0 ∧ ia_ms 151 = 0) ∧ ia_pl (ia_cls 122) 291 = some (1, 142, 0, 0, 1806) ∧ ia_na 142 = 3 ∧ (ia_mc 142 = 0 ∧ ia_ms 142 = 0) ∧ ia_pl (ia_cls 122) 378 = some (1, 275, 0, 0, 1979) ∧ ia_na 275 = 1 ∧ (ia_mc 275 = 0 ∧ ia_ms 275 = 0) ∧ ia_pl (ia_cls 122) 309 = some (1, 254, 0, 0, 1822) ∧ ia_na 254 = 3 ∧ (ia_mc 254 = 0 ∧ ia_ms 254 = 0) ∧ ia_pl (ia_cls 122) 313 = some (1, 108, 0, 0, 1845) ∧ ia_na 108 = 2 ∧ (ia_mc 108 = 0 ∧ ia_ms 108 = 0) ∧ ia_pl (ia_cls 122) 366 = some (1, 93, 0, 0, 1947) ∧ ia_na 93 = 1 ∧ (ia_mc 93 = 0 ∧ ia_ms 93 = 0) ∧ (Nat.beq 0 1 || cm_rcv 147 [.inr (.inr (some 184))]) = true ∧ (Nat.beq 0 1 || cm_rcv 151 [.inr (.inr (some 184)), .inl 0]) = true ∧ (Nat.beq 0 1 || cm_rcv 142 [.inr (.inr (some 184)), .inl 0, .inl 0]) = true ∧ (Nat.beq 0 1 || cm_rcv 275 [.inr (.inr (some 184))]) = true ∧ (Nat.beq 0 1 || cm_rcv 254 [.inr (.inr (some 184)), .inl 0, .inl 0]) = true ∧ (Nat.beq 0 1 || cm_rcv 108 [.inr (.inr (some 184)), .inl 0]) = true ∧ (Nat.beq 0 1 || cm_rcv 93 [.inr (.inr (some 184))]) = true := ⟨by decide +kernel, by decide +kernel, by decide +kernel, by decide +kernel, by decide +kernel, ⟨by decide +kernel, by decide +kernel⟩, by decide +kernel, by decide +kernel, ⟨by decide +kernel, by decide +kernel⟩, by decide +kernel, by decide +kernel, ⟨by decide +kernel, by decide +kernel⟩, by decide +kernel, by decide +kernel, ⟨by decide +kernel, by decide +kernel⟩, by decide +kernel, by decide +kernel, ⟨by decide +kernel, by decide +kernel⟩, by decide +kernel, by decide +kernel, ⟨by decide +kernel, by decide +kernel⟩, by decide +kernel, by decide +kernel, ⟨by decide +kernel, by decide +kernel⟩, by decide +kernel, by decide +kernel, ⟨by decide +kernel, by decide +kernel⟩, by decide +kernel, by decide +kernel, by decide +kernel, by decide +kernel, by decide +kernel, by decide +kernel, by decide +kernel⟩
set_option maxRecDepth 100000 in
theorem hkp_G : (∀ k, k < 6 → sv_g sg 186 (94 + k) = sv_top) ∧ (∀ k, k < 6 → sv_g sg 186 (82 + k) = (2147483648, 2147483847)) ∧ (∀ f, f < 4 → sv_g sg 186 (25 + f) = (2147483648, 2147483708)) ∧ sv_g sg 186 79 = (2147483648, 2147484248) := ⟨by decide +kernel, by decide +kernel, by decide +kernel, by decide +kernel⟩
/-- what the trial keeps -/
def hKp (F : Nat) (wA w : cm_W) : Prop := (∀ k i, ¬ (k = 186 ∧ 79 ≤ i ∧ i < 120) → w.1 k i = wA.1 k i ∧ w.2 k i = wA.2 k i) ∧ sv_w sg w ∧ (∀ f, F ≤ f → f < 4 → (w.1 186 (100 + f)).toInt = 0)
theorem hkp_st {w : cm_W} (hG : sv_w sg w) : ∀ j, j < 4 → 0 ≤ (w.1 186 (100 + j)).toInt ∧ (w.1 186 (100 + j)).toInt ≤ 5 := fun j hj => by
  have a := hG 186 (100 + j)
  rw [hb_G.2.2.2.1 j hj] at a
  have := hb_in a
  omega
def hSm (w : cm_W) : Int := (w.1 186 (100 + 0)).toInt + (w.1 186 (100 + 1)).toInt + (w.1 186 (100 + 2)).toInt + (w.1 186 (100 + 3)).toInt
theorem hea_st {w : cm_W} {k m : Nat} (hk : k < 6) (hm : m < 4) : ∀ j, j < 4 → (hea w k m).1 186 (100 + j) = if j = m then w.1 186 (100 + m) - Int32.ofInt 1 else w.1 186 (100 + j) := fun j hj => by
  unfold hea hea2 hea1
  rw [hs_u1_ne (fun z => absurd z.2 (by omega)), hs_u1_ne (fun z => absurd z.2 (by omega))]
  by_cases e : j = m
  · rw [if_pos e, e, hs_u1_self]
  · rw [if_neg e, hs_u1_ne (fun z => absurd z.2 (by omega))]
theorem hkp_sub {x : Int32} (h : 1 ≤ x.toInt) : (x - Int32.ofInt 1).toInt = x.toInt - 1 := by
  have := Int32.toInt_lt x
  rw [Int32.toInt_sub, show (Int32.ofInt 1).toInt = 1 from by decide]
  exact Int.bmod_eq_of_le (by omega) (by omega)
theorem hea_in {F : Nat} {wA w : cm_W} {k m : Nat} (hk : k < 6) (hm : m < 4) (hmF : m < F) (h1 : 1 ≤ (w.1 186 (100 + m)).toInt) (h : hKp F wA w) : hKp F wA (hea w k m) ∧ hSm (hea w k m) = hSm w - 1 := by
  obtain ⟨a1, a2, a3⟩ := h
  obtain ⟨g1, g2, g3, -⟩ := hkp_G
  have hst := hkp_st a2
  have hs := hkp_sub h1
  refine ⟨⟨fun a b hab => ?_, ?_, fun f hF hf => ?_⟩, ?_⟩
  · refine ⟨?_, (a1 a b hab).2⟩
    unfold hea hea2 hea1
    rw [hs_u1_ne (fun z => hab ⟨z.1, by omega, by omega⟩), hs_u1_ne (fun z => hab ⟨z.1, by omega, by omega⟩), hs_u1_ne (fun z => hab ⟨z.1, by omega, by omega⟩)]
    exact (a1 a b hab).1
  · have c1 : sv_w sg (hea1 w m) := by
      refine sv_w_u1 a2 ?_
      rw [hb_G.2.2.2.1 m hm]
      have := hst m hm
      exact hb_mk (by omega) (by omega)
    have c2 : sv_w sg (hea2 w k m) := by
      refine sv_w_u1 c1 ?_
      rw [g1 k hk]
      exact sv_in_top _
    refine sv_w_u1 c2 ?_
    have x1 := c2 186 (82 + k)
    have x2 := c2 186 (25 + m)
    rw [g2 k hk] at x1 ⊢
    rw [g3 m hm] at x2
    have y1 := hb_in x1
    have y2 := hb_in x2
    have e : ((hea2 w k m).1 186 (82 + k) - (hea2 w k m).1 186 (25 + m)).toInt = ((hea2 w k m).1 186 (82 + k)).toInt - ((hea2 w k m).1 186 (25 + m)).toInt := by
      rw [Int32.toInt_sub]
      exact Int.bmod_eq_of_le (by omega) (by omega)
    by_cases hc : (hea2 w k m).1 186 (82 + k) - (hea2 w k m).1 186 (25 + m) < Int32.ofInt 0
    · rw [if_pos hc]
      exact hb_mk (by decide) (by decide)
    · rw [if_neg hc]
      rw [Int32.lt_iff_toInt_lt, ht_c0] at hc
      exact hb_mk (by omega) (by omega)
  · rw [hea_st hk hm f hf, if_neg (by omega)]
    exact a3 f hF hf
  · unfold hSm
    rw [hea_st hk hm 0 (by omega), hea_st hk hm 1 (by omega), hea_st hk hm 2 (by omega), hea_st hk hm 3 (by omega)]
    have hm' : m = 0 ∨ m = 1 ∨ m = 2 ∨ m = 3 := by omega
    rcases hm' with rfl | rfl | rfl | rfl
    · rw [if_pos rfl, if_neg (by decide), if_neg (by decide), if_neg (by decide)]; omega
    · rw [if_neg (by decide), if_pos rfl, if_neg (by decide), if_neg (by decide)]; omega
    · rw [if_neg (by decide), if_neg (by decide), if_pos rfl, if_neg (by decide)]; omega
    · rw [if_neg (by decide), if_neg (by decide), if_neg (by decide), if_pos rfl]; omega
/-- whoHas changes nothing -/
theorem hwh_ok (w : cm_W) (s : Int32) (hG : sv_w sg w) : ∃ x, cm_C 3 151 [.inr (.inr (some 184)), .inl s] w (some (.inl x), w) ∧ -1 ≤ x.toInt ∧ x.toInt ≤ 5 := by
  obtain ⟨r, w', hC, hG', hF, q, hq, hr, -, -⟩ := wk_use (d := 3) sm_151_579b40b6_ok (by decide) (as := [.inr (.inr (some 184)), .inl s]) (w := w) ⟨rfl, sv_in_top _, trivial⟩ (fun f hf => by cases hf) hG
  have ew : w' = w := Prod.ext (funext fun k => funext fun i => (hF k i (fun ⟨r, z, _⟩ => by cases z)).1) (funext fun k => funext fun i => (hF k i (fun ⟨r, z, _⟩ => by cases z)).2)
  rw [ew] at hC
  rcases List.mem_cons.mp hq with rfl | hq
  · obtain ⟨x, rfl, hx⟩ := wk_int hr
    have := hb_in hx
    exact ⟨x, hC, by omega, by omega⟩
  · rcases List.mem_cons.mp hq with rfl | hq
    · obtain ⟨x, rfl, hx⟩ := wk_int hr
      have := hb_in hx
      exact ⟨x, hC, by omega, by omega⟩
    · cases hq
/-- all eat as long as there is food -/
theorem hkp_l1 (s c fl : Int32) (F : Nat) (hF4 : F ≤ 4) (wA : cm_W) (hF : (wA.1 186 1).toInt = (F : Int)) (Q : cm_O → Prop) (hk : ∀ w, hKp F wA w → cm_X (cm_C 5) 122 64 [some (.inr (.inr (some 184))), some (.inl s), some (.inl c), some (.inl fl)] [] w Q) : ∀ (n : Nat) (w : cm_W), hSm w < (n : Int) → hKp F wA w → cm_X (cm_C 5) 122 30 [some (.inr (.inr (some 184))), some (.inl s), some (.inl c), some (.inl fl)] [] w Q := by
  obtain ⟨d0, d1, d2, d5, d6, d7, d10, d13, d16, d17, d18, d19, d22, d23, d24, d25, d26, d27, d30, d31, d32, d35, d38, d39, d41, d42, d45, d48, d49, d50, d51, d54, d55, d58, d61, d64, d65, d66, d69, d72, d73, d76, d79, d80, d81, d84, d85, d88, d89, d92, d93, d94, d95, d96, d99, d100, d103, d104, d105, d106, d109, d110, d113, d114⟩ := hkp_d
  obtain ⟨m1, m2, pt, i1, i2, i3, t1, t2, t3, w1_, w2_, w3_, s1, s2, s3, o1, o2, o3, e1_, e2_, e3_, g1, g2, g3, b1, b2, b3, rt, rw_, rs, ro, re_, rg, rb⟩ := hkp_m
  intro n
  induction n with
  | zero =>
    intro w hn h
    have a := hkp_st h.2.1
    have a0 := a 0 (by omega)
    have a1 := a 1 (by omega)
    have a2 := a 2 (by omega)
    have a3 := a 3 (by omega)
    unfold hSm at hn
    omega
  | succ n ih =>
    intro w hn h
    obtain ⟨x, hC, hx1, hx2⟩ := hwh_ok w s h.2.1
    refine wk_aload_n d30 rfl ?_
    refine wk_iload_n d31 rfl ?_
    refine wk_call (kd := 0) (i := 375) d32 rfl (wk_cal (as := [.inr (.inr (some 184)), .inl s]) (t := []) w1_ rfl w2_ w3_ rfl rfl rw_ rfl) (cm_C_mono (by decide) hC) ?_
    refine wk_if d35 (t := 64) rfl (fun _ => hk w h) (fun hc => ?_)
    have hx0 := (hb_lt hc).2 rfl
    rw [hb_z] at hx0
    refine wk_aload_n d38 rfl ?_
    refine wk_bipush d39 ?_
    refine wk_iconst d41 ?_
    refine wk_call (kd := 0) (i := 291) d42 rfl (wk_cal (as := [.inr (.inr (some 184)), .inl (Int8.ofInt 100).toInt32, .inl (Int32.ofInt 4)]) (t := []) s1 rfl s2 s3 rfl rfl rs rfl) (cm_C_mono (by decide) (hsu_ok w)) ?_
    refine wk_if d45 (t := 64) rfl (fun _ => hk w h) (fun hc2 => ?_)
    have hst := hkp_st h.2.1
    have hsm : (hsg (fun j => w.1 186 (100 + j)) 4 0 (Int32.ofInt 0)).toInt = hSm w := hsg_to _ hst
    have hpos : 0 < hSm w := by
      rw [← hsm]
      have e : cm_cmp .le (hsg (fun j => w.1 186 (100 + j)) 4 0 (Int32.ofInt 0)) 0 = !(cm_cmp .lt 0 (hsg (fun j => w.1 186 (100 + j)) 4 0 (Int32.ofInt 0))) := rfl
      rw [e] at hc2
      have := (hb_lt (b := true) (x := 0) (z := hsg (fun j => w.1 186 (100 + j)) 4 0 (Int32.ofInt 0)) (by cases hh : cm_cmp .lt 0 (hsg (fun j => w.1 186 (100 + j)) 4 0 (Int32.ofInt 0)) with | false => rw [hh] at hc2; cases hc2 | true => rfl)).1 rfl
      rw [hb_z] at this
      exact this
    obtain ⟨m, hCm, hm4, hmx⟩ := hmo_ok w F (by rw [(h.1 186 1 (by omega)).1]; exact hF) hF4
    have hm1 : 1 ≤ (w.1 186 (100 + m)).toInt := by
      have key : ∀ j, j < 4 → (w.1 186 (100 + j)).toInt ≤ (w.1 186 (100 + m)).toInt := fun j hj => by
        rcases Nat.lt_or_ge j F with hjF | hjF
        · exact hmx j hjF
        · rw [h.2.2 j hjF hj]
          exact (hst m hm4).1
      have k0 := key 0 (by omega)
      have k1 := key 1 (by omega)
      have k2 := key 2 (by omega)
      have k3 := key 3 (by omega)
      unfold hSm at hpos
      omega
    have hmF : m < F := by
      rcases Nat.lt_or_ge m F with h' | h'
      · exact h'
      · have := h.2.2 m h' hm4
        omega
    have ex : x = Int32.ofNat x.toInt.toNat := hk_of (by omega) (by omega)
    rw [ex] at hC
    obtain ⟨q1, q2⟩ := hea_in (k := x.toInt.toNat) (by omega) hm4 hmF hm1 h
    refine wk_aload_n d48 rfl ?_
    refine wk_aload_n d49 rfl ?_
    refine wk_iload_n d50 rfl ?_
    refine wk_call (kd := 0) (i := 375) d51 rfl (wk_cal (as := [.inr (.inr (some 184)), .inl s]) (t := [.inr (.inr (some 184))]) w1_ rfl w2_ w3_ rfl rfl rw_ rfl) (cm_C_mono (by decide) hC) ?_
    refine wk_aload_n d54 rfl ?_
    refine wk_call (kd := 0) (i := 378) d55 rfl (wk_cal (as := [.inr (.inr (some 184))]) (t := [.inl (Int32.ofNat x.toInt.toNat), .inr (.inr (some 184))]) o1 rfl o2 o3 rfl rfl ro rfl) (cm_C_mono (by decide) hCm) ?_
    refine wk_call (kd := 0) (i := 309) d58 rfl (wk_cal (as := [.inr (.inr (some 184)), .inl (Int32.ofNat x.toInt.toNat), .inl (Int32.ofNat m)]) (t := []) e1_ rfl e2_ e3_ rfl rfl re_ rfl) (cm_C_mono (by decide) (hea_ok w x.toInt.toNat m (by omega) hm4)) ?_
    refine wk_goto d61 (t := 30) rfl ?_
    exact ih _ (by omega) q1

/-! ## by hand: tries, back, eats of the reference, exactly (wip/p2/gentab11.py) -/
set_option maxRecDepth 100000 in
theorem hty_d : decode (ia_code 147) 0 = .ok (.iconst 0, 1) ∧ decode (ia_code 147) 1 = .ok (.istore_n 1, 1) ∧ decode (ia_code 147) 2 = .ok (.iload_n 1, 1) ∧ decode (ia_code 147) 3 = .ok (.bipush 41, 2) ∧ decode (ia_code 147) 5 = .ok (.if_icmp .ge 24, 3) ∧ decode (ia_code 147) 8 = .ok (.aload_n 0, 1) ∧ decode (ia_code 147) 9 = .ok (.getfield 53, 3) ∧ decode (ia_code 147) 12 = .ok (.iload_n 1, 1) ∧ decode (ia_code 147) 13 = .ok (.aload_n 0, 1) ∧ decode (ia_code 147) 14 = .ok (.getfield 33, 3) ∧ decode (ia_code 147) 17 = .ok (.bipush 79, 2) ∧ decode (ia_code 147) 19 = .ok (.iload_n 1, 1) ∧ decode (ia_code 147) 20 = .ok (.iadd, 1) ∧ decode (ia_code 147) 21 = .ok (.iaload, 1) ∧ decode (ia_code 147) 22 = .ok (.iastore, 1) ∧ decode (ia_code 147) 23 = .ok (.iinc 1 1, 3) ∧ decode (ia_code 147) 26 = .ok (.goto (-24), 3) ∧ decode (ia_code 147) 29 = .ok (.return_, 1) := by
  refine ⟨?_, ?_, ?_, ?_, ?_, ?_, ?_, ?_, ?_, ?_, ?_, ?_, ?_, ?_, ?_, ?_, ?_, ?_⟩ <;> decide +kernel
set_option maxRecDepth 100000 in
theorem hty_m : ia_maxL 147 = 2 ∧ ia_ret 147 = none ∧ wk_gf 147 33 184 6 (186 + 3) = true ∧ wk_gf 147 53 184 22 (192 + 3) = true ∧ wk_ar 186 50 301 = true ∧ wk_ar 192 50 41 = true := ⟨by decide +kernel, by decide +kernel, by decide +kernel, by decide +kernel, by decide +kernel, by decide +kernel⟩
set_option maxRecDepth 100000 in
theorem hbk_d : decode (ia_code 93) 0 = .ok (.iconst 0, 1) ∧ decode (ia_code 93) 1 = .ok (.istore_n 1, 1) ∧ decode (ia_code 93) 2 = .ok (.iload_n 1, 1) ∧ decode (ia_code 93) 3 = .ok (.bipush 41, 2) ∧ decode (ia_code 93) 5 = .ok (.if_icmp .ge 24, 3) ∧ decode (ia_code 93) 8 = .ok (.aload_n 0, 1) ∧ decode (ia_code 93) 9 = .ok (.getfield 33, 3) ∧ decode (ia_code 93) 12 = .ok (.bipush 79, 2) ∧ decode (ia_code 93) 14 = .ok (.iload_n 1, 1) ∧ decode (ia_code 93) 15 = .ok (.iadd, 1) ∧ decode (ia_code 93) 16 = .ok (.aload_n 0, 1) ∧ decode (ia_code 93) 17 = .ok (.getfield 53, 3) ∧ decode (ia_code 93) 20 = .ok (.iload_n 1, 1) ∧ decode (ia_code 93) 21 = .ok (.iaload, 1) ∧ decode (ia_code 93) 22 = .ok (.iastore, 1) ∧ decode (ia_code 93) 23 = .ok (.iinc 1 1, 3) ∧ decode (ia_code 93) 26 = .ok (.goto (-24), 3) ∧ decode (ia_code 93) 29 = .ok (.return_, 1) := by
  refine ⟨?_, ?_, ?_, ?_, ?_, ?_, ?_, ?_, ?_, ?_, ?_, ?_, ?_, ?_, ?_, ?_, ?_, ?_⟩ <;> decide +kernel
set_option maxRecDepth 100000 in
theorem hbk_m : ia_maxL 93 = 2 ∧ ia_ret 93 = none ∧ wk_gf 93 33 184 6 (186 + 3) = true ∧ wk_gf 93 53 184 22 (192 + 3) = true ∧ wk_ar 186 50 301 = true ∧ wk_ar 192 50 41 = true := ⟨by decide +kernel, by decide +kernel, by decide +kernel, by decide +kernel, by decide +kernel, by decide +kernel⟩
theorem hty_ix : ∀ j, j < 41 → ((Int8.ofInt 79).toInt32 + Int32.ofNat j).toInt = ((79 + j : Nat) : Int) := by decide
theorem hty_c : ((Int8.ofInt 41).toInt32).toInt = ((41 : Nat) : Int) := by decide
set_option maxRecDepth 100000 in
theorem hty_G : ∀ j, j < 41 → sv_g sg 192 j = sv_g sg 186 (79 + j) := by decide +kernel
def hTr (w0 w : cm_W) (j : Nat) : Prop := (∀ k i, k ≠ 192 → w.1 k i = w0.1 k i) ∧ (∀ i, i < j → w.1 192 i = w0.1 186 (79 + i)) ∧ (∀ i, j ≤ i → w.1 192 i = w0.1 192 i) ∧ (∀ k i, w.2 k i = w0.2 k i) ∧ sv_w sg w
theorem hty_l (w0 : cm_W) : ∀ (n j : Nat) (w : cm_W), n + j = 41 → hTr w0 w j → cm_X (cm_C 0) 147 2 [some (.inr (.inr (some 184))), some (.inl (Int32.ofNat j))] [] w (fun o' => ∃ w', o' = (none, w') ∧ hTr w0 w' 41) := by
  obtain ⟨d0, d1, d2, d3, d5, d8, d9, d12, d13, d14, d17, d19, d20, d21, d22, d23, d26, d29⟩ := hty_d
  obtain ⟨m1, m2, gs, gb, as_, ab⟩ := hty_m
  intro n
  induction n with
  | zero =>
    intro j w hj h
    have e : j = 41 := by omega
    subst e
    refine wk_iload_n d2 rfl ?_
    refine wk_bipush d3 ?_
    refine wk_icmp d5 (t := 29) rfl (fun _ => ?_) (fun hc => ?_)
    · exact wk_return d29 m2 ⟨w, rfl, h⟩
    · have := (hk_ge (by omega) hty_c hc).2 rfl
      omega
  | succ n ih =>
    intro j w hj h
    have hix := hty_ix j (by omega)
    have hji : (Int32.ofNat j).toInt = (j : Int) := hk_to j (by omega)
    refine wk_iload_n d2 rfl ?_
    refine wk_bipush d3 ?_
    refine wk_icmp d5 (t := 29) rfl (fun hc => ?_) (fun _ => ?_)
    · have := (hk_ge (by omega) hty_c hc).1 rfl
      omega
    refine wk_aload_n d8 rfl ?_
    refine wk_getR gb d9 ?_
    refine wk_iload_n d12 rfl ?_
    refine wk_aload_n d13 rfl ?_
    refine wk_getR gs d14 ?_
    refine wk_bipush d17 ?_
    refine wk_iload_n d19 rfl ?_
    refine wk_iadd d20 ?_
    refine wk_iaload as_ (by rw [hix]; omega) (by rw [hix]; omega) d21 ?_
    rw [hix, show ((79 + j : Nat) : Int).toNat = 79 + j from by omega]
    refine wk_iastore ab (by rw [hji]; omega) (by rw [hji]; omega) d22 ?_
    rw [hji, show ((j : Nat) : Int).toNat = j from by omega]
    refine wk_iinc d23 (by rw [m1]; rfl) rfl rfl ?_
    refine wk_goto d26 (t := 2) rfl ?_
    rw [hk_inc j (by omega)]
    obtain ⟨a1, a2, a3, a4, a5⟩ := h
    refine ih (j + 1) _ (by omega) ⟨fun k i hk => ?_, fun i hi => ?_, fun i hi => ?_, a4, ?_⟩
    · rw [hs_u1_ne (fun z => hk z.1)]
      exact a1 k i hk
    · by_cases e : i = j
      · subst e
        rw [hs_u1_self]
        exact a1 186 (79 + i) (by decide)
      · rw [hs_u1_ne (fun z => e z.2)]
        exact a2 i (by omega)
    · rw [hs_u1_ne (fun z => absurd z.2 (by omega))]
      exact a3 i (by omega)
    · refine sv_w_u1 a5 ?_
      rw [hty_G j (by omega)]
      exact a5 186 (79 + j)
/-- tries keeps a copy -/
theorem hty_ok (w0 : cm_W) (hG : sv_w sg w0) : ∃ w', cm_C 1 147 [.inr (.inr (some 184))] w0 (none, w') ∧ hTr w0 w' 41 := by
  obtain ⟨d0, d1, d2, d3, d5, d8, d9, d12, d13, d14, d17, d19, d20, d21, d22, d23, d26, d29⟩ := hty_d
  obtain ⟨m1, m2, gs, gb, as_, ab⟩ := hty_m
  have h : ∃ o, cm_C (0 + 1) 147 [.inr (.inr (some 184))] w0 o ∧ (fun o' : cm_O => ∃ w', o' = (none, w') ∧ hTr w0 w' 41) o := by
    refine wk_entry (by rw [m1]; exact Nat.le_of_ble_eq_true rfl) ?_
    rw [show cm_ent 147 [.inr (.inr (some 184))] = [some (.inr (.inr (some 184))), none] from by unfold cm_ent; rw [m1]; rfl]
    refine wk_iconst d0 ?_
    refine wk_istore_n d1 (by rw [m1]; rfl) rfl ?_
    exact hty_l w0 41 0 w0 rfl ⟨fun _ _ _ => rfl, fun i hi => absurd hi (Nat.not_lt_zero _), fun _ _ => rfl, fun _ _ => rfl, hG⟩
  obtain ⟨o, hC, w', rfl, a⟩ := h
  exact ⟨w', hC, a⟩
def hBk (w0 w : cm_W) (j : Nat) : Prop := (∀ k i, ¬ (k = 186 ∧ 79 ≤ i ∧ i < 120) → w.1 k i = w0.1 k i) ∧ (∀ i, i < j → w.1 186 (79 + i) = w0.1 192 i) ∧ (∀ k i, w.2 k i = w0.2 k i) ∧ sv_w sg w
theorem hbk_l (w0 : cm_W) : ∀ (n j : Nat) (w : cm_W), n + j = 41 → hBk w0 w j → cm_X (cm_C 0) 93 2 [some (.inr (.inr (some 184))), some (.inl (Int32.ofNat j))] [] w (fun o' => ∃ w', o' = (none, w') ∧ hBk w0 w' 41) := by
  obtain ⟨d0, d1, d2, d3, d5, d8, d9, d12, d14, d15, d16, d17, d20, d21, d22, d23, d26, d29⟩ := hbk_d
  obtain ⟨m1, m2, gs, gb, as_, ab⟩ := hbk_m
  intro n
  induction n with
  | zero =>
    intro j w hj h
    have e : j = 41 := by omega
    subst e
    refine wk_iload_n d2 rfl ?_
    refine wk_bipush d3 ?_
    refine wk_icmp d5 (t := 29) rfl (fun _ => ?_) (fun hc => ?_)
    · exact wk_return d29 m2 ⟨w, rfl, h⟩
    · have := (hk_ge (by omega) hty_c hc).2 rfl
      omega
  | succ n ih =>
    intro j w hj h
    have hix := hty_ix j (by omega)
    have hji : (Int32.ofNat j).toInt = (j : Int) := hk_to j (by omega)
    refine wk_iload_n d2 rfl ?_
    refine wk_bipush d3 ?_
    refine wk_icmp d5 (t := 29) rfl (fun hc => ?_) (fun _ => ?_)
    · have := (hk_ge (by omega) hty_c hc).1 rfl
      omega
    refine wk_aload_n d8 rfl ?_
    refine wk_getR gs d9 ?_
    refine wk_bipush d12 ?_
    refine wk_iload_n d14 rfl ?_
    refine wk_iadd d15 ?_
    refine wk_aload_n d16 rfl ?_
    refine wk_getR gb d17 ?_
    refine wk_iload_n d20 rfl ?_
    refine wk_iaload ab (by rw [hji]; omega) (by rw [hji]; omega) d21 ?_
    rw [hji, show ((j : Nat) : Int).toNat = j from by omega]
    refine wk_iastore as_ (by rw [hix]; omega) (by rw [hix]; omega) d22 ?_
    rw [hix, show ((79 + j : Nat) : Int).toNat = 79 + j from by omega]
    refine wk_iinc d23 (by rw [m1]; rfl) rfl rfl ?_
    refine wk_goto d26 (t := 2) rfl ?_
    rw [hk_inc j (by omega)]
    obtain ⟨a1, a2, a4, a5⟩ := h
    refine ih (j + 1) _ (by omega) ⟨fun k i hk => ?_, fun i hi => ?_, a4, ?_⟩
    · rw [hs_u1_ne (fun z => hk ⟨z.1, by omega, by omega⟩)]
      exact a1 k i hk
    · by_cases e : i = j
      · subst e
        rw [hs_u1_self]
        exact a1 192 i (fun z => absurd z.1 (by decide))
      · rw [hs_u1_ne (fun z => absurd z.2 (by omega))]
        exact a2 i (by omega)
    · refine sv_w_u1 a5 ?_
      rw [← hty_G j (by omega)]
      exact a5 192 j
/-- back brings the copy -/
theorem hbk_ok (w0 : cm_W) (hG : sv_w sg w0) : ∃ w', cm_C 1 93 [.inr (.inr (some 184))] w0 (none, w') ∧ hBk w0 w' 41 := by
  obtain ⟨d0, d1, d2, d3, d5, d8, d9, d12, d14, d15, d16, d17, d20, d21, d22, d23, d26, d29⟩ := hbk_d
  obtain ⟨m1, m2, gs, gb, as_, ab⟩ := hbk_m
  have h : ∃ o, cm_C (0 + 1) 93 [.inr (.inr (some 184))] w0 o ∧ (fun o' : cm_O => ∃ w', o' = (none, w') ∧ hBk w0 w' 41) o := by
    refine wk_entry (by rw [m1]; exact Nat.le_of_ble_eq_true rfl) ?_
    rw [show cm_ent 93 [.inr (.inr (some 184))] = [some (.inr (.inr (some 184))), none] from by unfold cm_ent; rw [m1]; rfl]
    refine wk_iconst d0 ?_
    refine wk_istore_n d1 (by rw [m1]; rfl) rfl ?_
    exact hbk_l w0 41 0 w0 rfl ⟨fun _ _ _ => rfl, fun i hi => absurd hi (Nat.not_lt_zero _), fun _ _ => rfl, hG⟩
  obtain ⟨o, hC, w', rfl, a⟩ := h
  exact ⟨w', hC, a⟩
set_option maxRecDepth 100000 in
theorem hea_d : decode (ia_code 254) 0 = .ok (.aload_n 0, 1) ∧ decode (ia_code 254) 1 = .ok (.getfield 33, 3) ∧ decode (ia_code 254) 4 = .ok (.bipush 100, 2) ∧ decode (ia_code 254) 6 = .ok (.iload_n 2, 1) ∧ decode (ia_code 254) 7 = .ok (.iadd, 1) ∧ decode (ia_code 254) 8 = .ok (.dup2, 1) ∧ decode (ia_code 254) 9 = .ok (.iaload, 1) ∧ decode (ia_code 254) 10 = .ok (.iconst 1, 1) ∧ decode (ia_code 254) 11 = .ok (.isub, 1) ∧ decode (ia_code 254) 12 = .ok (.iastore, 1) ∧ decode (ia_code 254) 13 = .ok (.aload_n 0, 1) ∧ decode (ia_code 254) 14 = .ok (.getfield 33, 3) ∧ decode (ia_code 254) 17 = .ok (.bipush 94, 2) ∧ decode (ia_code 254) 19 = .ok (.iload_n 1, 1) ∧ decode (ia_code 254) 20 = .ok (.iadd, 1) ∧ decode (ia_code 254) 21 = .ok (.dup2, 1) ∧ decode (ia_code 254) 22 = .ok (.iaload, 1) ∧ decode (ia_code 254) 23 = .ok (.iconst 1, 1) ∧ decode (ia_code 254) 24 = .ok (.iadd, 1) ∧ decode (ia_code 254) 25 = .ok (.iastore, 1) ∧ decode (ia_code 254) 26 = .ok (.aload_n 0, 1) ∧ decode (ia_code 254) 27 = .ok (.getfield 33, 3) ∧ decode (ia_code 254) 30 = .ok (.bipush 82, 2) ∧ decode (ia_code 254) 32 = .ok (.iload_n 1, 1) ∧ decode (ia_code 254) 33 = .ok (.iadd, 1) ∧ decode (ia_code 254) 34 = .ok (.iconst 0, 1) ∧ decode (ia_code 254) 35 = .ok (.aload_n 0, 1) ∧ decode (ia_code 254) 36 = .ok (.getfield 33, 3) ∧ decode (ia_code 254) 39 = .ok (.bipush 82, 2) ∧ decode (ia_code 254) 41 = .ok (.iload_n 1, 1) ∧ decode (ia_code 254) 42 = .ok (.iadd, 1) ∧ decode (ia_code 254) 43 = .ok (.iaload, 1) ∧ decode (ia_code 254) 44 = .ok (.aload_n 0, 1) ∧ decode (ia_code 254) 45 = .ok (.getfield 33, 3) ∧ decode (ia_code 254) 48 = .ok (.bipush 25, 2) ∧ decode (ia_code 254) 50 = .ok (.iload_n 2, 1) ∧ decode (ia_code 254) 51 = .ok (.iadd, 1) ∧ decode (ia_code 254) 52 = .ok (.iaload, 1) ∧ decode (ia_code 254) 53 = .ok (.isub, 1) ∧ decode (ia_code 254) 54 = .ok (.invokestatic 294, 3) ∧ decode (ia_code 254) 57 = .ok (.iastore, 1) ∧ decode (ia_code 254) 58 = .ok (.return_, 1) := by
  refine ⟨?_, ?_, ?_, ?_, ?_, ?_, ?_, ?_, ?_, ?_, ?_, ?_, ?_, ?_, ?_, ?_, ?_, ?_, ?_, ?_, ?_, ?_, ?_, ?_, ?_, ?_, ?_, ?_, ?_, ?_, ?_, ?_, ?_, ?_, ?_, ?_, ?_, ?_, ?_, ?_, ?_, ?_⟩ <;> decide +kernel
set_option maxRecDepth 100000 in
theorem hea_m : ia_maxL 254 = 3 ∧ ia_ret 254 = none ∧ wk_gf 254 33 184 6 (186 + 3) = true ∧ wk_ar 186 50 301 = true ∧ ia_pl (ia_cls 254) 294 = some (1, 257, 1, 0, 1826) ∧ ia_na 257 = 2 ∧ (ia_mc 257 = 0 ∧ ia_ms 257 = 0) := ⟨by decide +kernel, by decide +kernel, by decide +kernel, by decide +kernel, by decide +kernel, by decide +kernel, ⟨by decide +kernel, by decide +kernel⟩⟩
theorem hea_i : (∀ f, f < 4 → ((Int8.ofInt 100).toInt32 + Int32.ofNat f).toInt = ((100 + f : Nat) : Int)) ∧ (∀ k, k < 6 → ((Int8.ofInt 94).toInt32 + Int32.ofNat k).toInt = ((94 + k : Nat) : Int)) ∧ (∀ k, k < 6 → ((Int8.ofInt 82).toInt32 + Int32.ofNat k).toInt = ((82 + k : Nat) : Int)) ∧ (∀ f, f < 4 → ((Int8.ofInt 25).toInt32 + Int32.ofNat f).toInt = ((25 + f : Nat) : Int)) := by decide
def hea1 (w : cm_W) (f : Nat) : cm_W := cm_u1 w 186 (100 + f) (w.1 186 (100 + f) - Int32.ofInt 1)
def hea2 (w : cm_W) (k f : Nat) : cm_W := cm_u1 (hea1 w f) 186 (94 + k) ((hea1 w f).1 186 (94 + k) + Int32.ofInt 1)
def hea (w : cm_W) (k f : Nat) : cm_W := cm_u1 (hea2 w k f) 186 (82 + k) (if (hea2 w k f).1 186 (82 + k) - (hea2 w k f).1 186 (25 + f) < Int32.ofInt 0 then Int32.ofInt 0 else (hea2 w k f).1 186 (82 + k) - (hea2 w k f).1 186 (25 + f))
/-- eats, exactly -/
theorem hea_ok (w : cm_W) (k f : Nat) (hk : k < 6) (hf : f < 4) : cm_C 2 254 [.inr (.inr (some 184)), .inl (Int32.ofNat k), .inl (Int32.ofNat f)] w (none, hea w k f) := by
  obtain ⟨d0, d1, d4, d6, d7, d8, d9, d10, d11, d12, d13, d14, d17, d19, d20, d21, d22, d23, d24, d25, d26, d27, d30, d32, d33, d34, d35, d36, d39, d41, d42, d43, d44, d45, d48, d50, d51, d52, d53, d54, d57, d58⟩ := hea_d
  obtain ⟨m1, m2, gs, as_, g1, g2, g3⟩ := hea_m
  obtain ⟨i1, i2, i3, i4⟩ := hea_i
  have x1 := i1 f hf
  have x2 := i2 k hk
  have x3 := i3 k hk
  have x4 := i4 f hf
  refine wk_exact (d := 1) (by rw [m1]; exact Nat.le_of_ble_eq_true rfl) ?_
  rw [show cm_ent 254 [.inr (.inr (some 184)), .inl (Int32.ofNat k), .inl (Int32.ofNat f)] = [some (.inr (.inr (some 184))), some (.inl (Int32.ofNat k)), some (.inl (Int32.ofNat f))] from by unfold cm_ent; rw [m1]; rfl]
  refine wk_aload_n d0 rfl ?_
  refine wk_getR gs d1 ?_
  refine wk_bipush d4 ?_
  refine wk_iload_n d6 rfl ?_
  refine wk_iadd d7 ?_
  refine wk_dup2 d8 ?_
  refine wk_iaload as_ (by rw [x1]; omega) (by rw [x1]; omega) d9 ?_
  refine wk_iconst d10 ?_
  refine wk_isub d11 ?_
  refine wk_iastore as_ (by rw [x1]; omega) (by rw [x1]; omega) d12 ?_
  rw [x1, show ((100 + f : Nat) : Int).toNat = 100 + f from by omega]
  show cm_X _ _ _ _ _ (hea1 w f) _
  refine wk_aload_n d13 rfl ?_
  refine wk_getR gs d14 ?_
  refine wk_bipush d17 ?_
  refine wk_iload_n d19 rfl ?_
  refine wk_iadd d20 ?_
  refine wk_dup2 d21 ?_
  refine wk_iaload as_ (by rw [x2]; omega) (by rw [x2]; omega) d22 ?_
  refine wk_iconst d23 ?_
  refine wk_iadd d24 ?_
  refine wk_iastore as_ (by rw [x2]; omega) (by rw [x2]; omega) d25 ?_
  rw [x2, show ((94 + k : Nat) : Int).toNat = 94 + k from by omega]
  show cm_X _ _ _ _ _ (hea2 w k f) _
  refine wk_aload_n d26 rfl ?_
  refine wk_getR gs d27 ?_
  refine wk_bipush d30 ?_
  refine wk_iload_n d32 rfl ?_
  refine wk_iadd d33 ?_
  refine wk_iconst d34 ?_
  refine wk_aload_n d35 rfl ?_
  refine wk_getR gs d36 ?_
  refine wk_bipush d39 ?_
  refine wk_iload_n d41 rfl ?_
  refine wk_iadd d42 ?_
  refine wk_iaload as_ (by rw [x3]; omega) (by rw [x3]; omega) d43 ?_
  refine wk_aload_n d44 rfl ?_
  refine wk_getR gs d45 ?_
  refine wk_bipush d48 ?_
  refine wk_iload_n d50 rfl ?_
  refine wk_iadd d51 ?_
  refine wk_iaload as_ (by rw [x4]; omega) (by rw [x4]; omega) d52 ?_
  refine wk_isub d53 ?_
  rw [x4, show ((25 + f : Nat) : Int).toNat = 25 + f from by omega]
  refine wk_call (kd := 1) (i := 294) d54 rfl (wk_cal (as := [.inl (Int32.ofInt 0), .inl ((hea2 w k f).1 186 ((Int8.ofInt 82).toInt32 + Int32.ofNat k).toInt.toNat - (hea2 w k f).1 186 (25 + f))]) (t := [.inl ((Int8.ofInt 82).toInt32 + Int32.ofNat k), .inr (.inr (some 186))]) g1 rfl g2 g3 rfl rfl rfl rfl) (hgr_ok _ _ (hea2 w k f)) ?_
  refine wk_iastore as_ (by rw [x3]; omega) (by rw [x3]; omega) d57 ?_
  rw [x3, show ((82 + k : Nat) : Int).toNat = 82 + k from by omega]
  exact wk_return d58 m2 rfl

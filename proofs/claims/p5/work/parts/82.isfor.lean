/-! ## by hand: isPlate, behind, isFor of the reference, exactly (wip/p2/gentab3.py) -/
set_option maxRecDepth 100000 in
theorem hpl_d : decode (ia_code 265) 0 = .ok (.iload_n 1, 1) ∧ decode (ia_code 265) 1 = .ok (.invokestatic 322, 3) ∧ decode (ia_code 265) 4 = .ok (.iconst 3, 1) ∧ decode (ia_code 265) 5 = .ok (.if_icmp .gt 7, 3) ∧ decode (ia_code 265) 8 = .ok (.iconst 1, 1) ∧ decode (ia_code 265) 9 = .ok (.goto 4, 3) ∧ decode (ia_code 265) 12 = .ok (.iconst 0, 1) ∧ decode (ia_code 265) 13 = .ok (.istore_n 2, 1) ∧ decode (ia_code 265) 14 = .ok (.aload_n 0, 1) ∧ decode (ia_code 265) 15 = .ok (.getfield 33, 3) ∧ decode (ia_code 265) 18 = .ok (.iconst 1, 1) ∧ decode (ia_code 265) 19 = .ok (.iaload, 1) ∧ decode (ia_code 265) 20 = .ok (.istore_n 3, 1) ∧ decode (ia_code 265) 21 = .ok (.iload_n 3, 1) ∧ decode (ia_code 265) 22 = .ok (.iconst 4, 1) ∧ decode (ia_code 265) 23 = .ok (.if_icmp .ge 29, 3) ∧ decode (ia_code 265) 26 = .ok (.iload_n 2, 1) ∧ decode (ia_code 265) 27 = .ok (.ifCond .eq 17, 3) ∧ decode (ia_code 265) 30 = .ok (.iload_n 1, 1) ∧ decode (ia_code 265) 31 = .ok (.iconst 2, 1) ∧ decode (ia_code 265) 32 = .ok (.iload_n 3, 1) ∧ decode (ia_code 265) 33 = .ok (.imul, 1) ∧ decode (ia_code 265) 34 = .ok (.ishr, 1) ∧ decode (ia_code 265) 35 = .ok (.iconst 3, 1) ∧ decode (ia_code 265) 36 = .ok (.iand, 1) ∧ decode (ia_code 265) 37 = .ok (.ifCond .ne 7, 3) ∧ decode (ia_code 265) 40 = .ok (.iconst 1, 1) ∧ decode (ia_code 265) 41 = .ok (.goto 4, 3) ∧ decode (ia_code 265) 44 = .ok (.iconst 0, 1) ∧ decode (ia_code 265) 45 = .ok (.istore_n 2, 1) ∧ decode (ia_code 265) 46 = .ok (.iinc 3 1, 3) ∧ decode (ia_code 265) 49 = .ok (.goto (-28), 3) ∧ decode (ia_code 265) 52 = .ok (.iload_n 2, 1) ∧ decode (ia_code 265) 53 = .ok (.ireturn, 1) := by
  refine ⟨?_, ?_, ?_, ?_, ?_, ?_, ?_, ?_, ?_, ?_, ?_, ?_, ?_, ?_, ?_, ?_, ?_, ?_, ?_, ?_, ?_, ?_, ?_, ?_, ?_, ?_, ?_, ?_, ?_, ?_, ?_, ?_, ?_, ?_⟩ <;> decide +kernel
set_option maxRecDepth 100000 in
theorem hpl_m : ia_maxL 265 = 4 ∧ ia_ret 265 = some .boolean ∧ wk_gf 265 33 184 6 (186 + 3) = true ∧ wk_ar 186 50 301 = true ∧ ia_pl (ia_cls 265) 322 = some (1, 279, 1, 0, 1896) ∧ ia_na 279 = 1 ∧ (ia_mc 279 = 0 ∧ ia_ms 279 = 0) := ⟨by decide +kernel, by decide +kernel, by decide +kernel, by decide +kernel, by decide +kernel, by decide +kernel, ⟨by decide +kernel, by decide +kernel⟩⟩
theorem hpl_ge : ∀ j, j < 4 → cm_cmp .ge (Int32.ofNat j) (Int32.ofInt 4) = false := by decide
theorem hpl_c1 : (Int32.ofInt 1).toInt = 1 := by decide
/-- n foods more, from food j on, are not in the plate -/
def hpl (p : Int32) : Nat → Nat → Bool → Bool
  | 0, _, b => b
  | n + 1, j, b => hpl p n (j + 1) (b && decide (hu_n p j = 0))
def hbI (b : Bool) : Int32 := if b = true then Int32.ofInt 1 else Int32.ofInt 0
theorem hbI_0 {b : Bool} {c : Bool} (h : cm_cmp .eq (hbI b) 0 = c) : (c = true → b = false) ∧ (c = false → b = true) := by
  cases b with
  | false =>
    have e : cm_cmp .eq (hbI false) 0 = true := by decide
    rw [e] at h
    subst h
    exact ⟨fun _ => rfl, fun z => by cases z⟩
  | true =>
    have e : cm_cmp .eq (hbI true) 0 = false := by decide
    rw [e] at h
    subst h
    exact ⟨(fun z => absurd z (by decide)), fun _ => rfl⟩
theorem hpl_loop (w : cm_W) (p : Int32) (Q : cm_O → Prop) : ∀ (n j : Nat) (b : Bool), n + j = 4 → Q (some (.inl (hbI (hpl p n j b))), w) → cm_X (cm_C 1) 265 21 [some (.inr (.inr (some 184))), some (.inl p), some (.inl (hbI b)), some (.inl (Int32.ofNat j))] [] w Q := by
  obtain ⟨d0, d1, d4, d5, d8, d9, d12, d13, d14, d15, d18, d19, d20, d21, d22, d23, d26, d27, d30, d31, d32, d33, d34, d35, d36, d37, d40, d41, d44, d45, d46, d49, d52, d53⟩ := hpl_d
  obtain ⟨m1, m2, m3, m4, m5, m6, m7⟩ := hpl_m
  intro n
  induction n with
  | zero =>
    intro j b hj hQ
    have ej : j = 4 := by omega
    subst ej
    refine wk_iload_n d21 rfl ?_
    refine wk_iconst d22 ?_
    refine wk_icmp d23 (t := 52) rfl (fun _ => ?_) (fun hc => ?_)
    · refine wk_iload_n d52 rfl ?_
      exact wk_ireturn d53 m2 (wk_b1 b) hQ
    · rw [hu_ge4] at hc
      cases hc
  | succ n ih =>
    intro j b hj hQ
    have hj4 : j < 4 := by omega
    have hQ' : Q (some (.inl (hbI (hpl p n (j + 1) (b && decide (hu_n p j = 0))))), w) := hQ
    have go : ∀ b', b' = (b && decide (hu_n p j = 0)) → cm_X (cm_C 1) 265 46 [some (.inr (.inr (some 184))), some (.inl p), some (.inl (hbI b')), some (.inl (Int32.ofNat j))] [] w Q := fun b' e => by
      refine wk_iinc d46 (by rw [m1]; rfl) rfl rfl ?_
      refine wk_goto d49 (t := 21) rfl ?_
      rw [hu_inc j hj4]
      refine ih (j + 1) b' (by omega) ?_
      rw [e]
      exact hQ'
    refine wk_iload_n d21 rfl ?_
    refine wk_iconst d22 ?_
    refine wk_icmp d23 (t := 52) rfl (fun hc => ?_) (fun _ => ?_)
    · rw [hpl_ge j hj4] at hc
      cases hc
    refine wk_iload_n d26 rfl ?_
    refine wk_if d27 (t := 44) rfl (fun hc => ?_) (fun hc => ?_)
    · have hb := (hbI_0 hc).1 rfl
      refine wk_iconst d44 ?_
      refine wk_istore_n d45 (by rw [m1]; rfl) rfl ?_
      exact go false (by rw [hb]; rfl)
    · have hb := (hbI_0 hc).2 rfl
      refine wk_iload_n d30 rfl ?_
      refine wk_iconst d31 ?_
      refine wk_iload_n d32 rfl ?_
      refine wk_imul d33 ?_
      refine wk_ishr d34 ?_
      refine wk_iconst d35 ?_
      refine wk_iand d36 ?_
      refine wk_if d37 (t := 44) rfl (fun hc => ?_) (fun hc => ?_)
      · have hz : ¬ hu_n p j = 0 := fun z => by
          have hc' : (!(decide (hu_n p j = 0))) = true := hc
          rw [decide_eq_true z] at hc'
          cases hc'
        refine wk_iconst d44 ?_
        refine wk_istore_n d45 (by rw [m1]; rfl) rfl ?_
        exact go false (by rw [hb, decide_eq_false hz]; rfl)
      · have hz : hu_n p j = 0 := by
          have hc' : (!(decide (hu_n p j = 0))) = false := hc
          by_cases z : hu_n p j = 0
          · exact z
          · rw [decide_eq_false z] at hc'; cases hc'
        refine wk_iconst d40 ?_
        refine wk_goto d41 (t := 45) rfl ?_
        refine wk_istore_n d45 (by rw [m1]; rfl) rfl ?_
        exact go true (by rw [hb, decide_eq_true hz]; rfl)
/-- isPlate -/
def hpt (w : cm_W) (p : Int32) : Bool := hpl p (4 - (w.1 186 1).toInt.toNat) (w.1 186 1).toInt.toNat (!(decide (Int32.ofInt 3 < hp p)))
theorem hpl_ok (p : Int32) (w : cm_W) (h0 : 0 ≤ (w.1 186 1).toInt) (h4 : (w.1 186 1).toInt ≤ 4) : cm_C 2 265 [.inr (.inr (some 184)), .inl p] w (some (.inl (hbI (hpt w p))), w) := by
  obtain ⟨d0, d1, d4, d5, d8, d9, d12, d13, d14, d15, d18, d19, d20, d21, d22, d23, d26, d27, d30, d31, d32, d33, d34, d35, d36, d37, d40, d41, d44, d45, d46, d49, d52, d53⟩ := hpl_d
  obtain ⟨m1, m2, m3, m4, m5, m6, m7⟩ := hpl_m
  refine wk_exact (d := 1) (by rw [m1]; exact Nat.le_of_ble_eq_true rfl) ?_
  rw [show cm_ent 265 [.inr (.inr (some 184)), .inl p] = [some (.inr (.inr (some 184))), some (.inl p), none, none] from by unfold cm_ent; rw [m1]; rfl]
  refine wk_iload_n d0 rfl ?_
  refine wk_call (kd := 1) (i := 322) d1 rfl (wk_cal (as := [.inl p]) (t := []) m5 rfl m6 m7 rfl rfl rfl rfl) (hp_ok p w) ?_
  refine wk_iconst d4 ?_
  have hf : Int32.ofNat (w.1 186 1).toInt.toNat = w.1 186 1 := by
    apply Int32.toInt_inj.mp
    rw [Int32.toInt_ofNat_of_lt (by omega)]
    omega
  have tail : ∀ b, b = (!(decide (Int32.ofInt 3 < hp p))) → cm_X (cm_C 1) 265 13 [some (.inr (.inr (some 184))), some (.inl p), none, none] [.inl (hbI b)] w (fun o' => o' = (some (.inl (hbI (hpt w p))), w)) := fun b e => by
    refine wk_istore_n d13 (by rw [m1]; rfl) rfl ?_
    refine wk_aload_n d14 rfl ?_
    refine wk_getR m3 d15 ?_
    refine wk_iconst d18 ?_
    refine wk_iaload m4 (by rw [hpl_c1]; decide) (by rw [hpl_c1]; decide) d19 ?_
    rw [hpl_c1]
    refine wk_istore_n d20 (by rw [m1]; rfl) rfl ?_
    have := hpl_loop w p (fun o' => o' = (some (.inl (hbI (hpt w p))), w)) (4 - (w.1 186 1).toInt.toNat) (w.1 186 1).toInt.toNat b (by omega) (by rw [e]; rfl)
    rw [hf] at this
    exact this
  refine wk_icmp d5 (t := 12) rfl (fun hc => ?_) (fun hc => ?_)
  · refine wk_iconst d12 ?_
    exact tail false (by rw [show decide (Int32.ofInt 3 < hp p) = true from hc]; rfl)
  · refine wk_iconst d8 ?_
    refine wk_goto d9 (t := 13) rfl ?_
    exact tail true (by rw [show decide (Int32.ofInt 3 < hp p) = false from hc]; rfl)
set_option maxRecDepth 100000 in
theorem hbh_d : decode (ia_code 244) 0 = .ok (.iload_n 2, 1) ∧ decode (ia_code 244) 1 = .ok (.ifCond .ne 5, 3) ∧ decode (ia_code 244) 4 = .ok (.iload_n 1, 1) ∧ decode (ia_code 244) 5 = .ok (.ireturn, 1) ∧ decode (ia_code 244) 6 = .ok (.iconst 0, 1) ∧ decode (ia_code 244) 7 = .ok (.istore_n 3, 1) ∧ decode (ia_code 244) 8 = .ok (.iconst 0, 1) ∧ decode (ia_code 244) 9 = .ok (.istore 4, 2) ∧ decode (ia_code 244) 11 = .ok (.iconst 0, 1) ∧ decode (ia_code 244) 12 = .ok (.istore 5, 2) ∧ decode (ia_code 244) 14 = .ok (.iload 5, 2) ∧ decode (ia_code 244) 16 = .ok (.iconst 4, 1) ∧ decode (ia_code 244) 17 = .ok (.if_icmp .ge 57, 3) ∧ decode (ia_code 244) 20 = .ok (.iload_n 2, 1) ∧ decode (ia_code 244) 21 = .ok (.iconst 2, 1) ∧ decode (ia_code 244) 22 = .ok (.iload 5, 2) ∧ decode (ia_code 244) 24 = .ok (.imul, 1) ∧ decode (ia_code 244) 25 = .ok (.ishr, 1) ∧ decode (ia_code 244) 26 = .ok (.iconst 3, 1) ∧ decode (ia_code 244) 27 = .ok (.iand, 1) ∧ decode (ia_code 244) 28 = .ok (.istore 6, 2) ∧ decode (ia_code 244) 30 = .ok (.iload_n 3, 1) ∧ decode (ia_code 244) 31 = .ok (.iload 6, 2) ∧ decode (ia_code 244) 33 = .ok (.aload_n 0, 1) ∧ decode (ia_code 244) 34 = .ok (.getfield 33, 3) ∧ decode (ia_code 244) 37 = .ok (.bipush 25, 2) ∧ decode (ia_code 244) 39 = .ok (.iload 5, 2) ∧ decode (ia_code 244) 41 = .ok (.iadd, 1) ∧ decode (ia_code 244) 42 = .ok (.iaload, 1) ∧ decode (ia_code 244) 43 = .ok (.imul, 1) ∧ decode (ia_code 244) 44 = .ok (.iadd, 1) ∧ decode (ia_code 244) 45 = .ok (.istore_n 3, 1) ∧ decode (ia_code 244) 46 = .ok (.iload 6, 2) ∧ decode (ia_code 244) 48 = .ok (.ifCond .le 20, 3) ∧ decode (ia_code 244) 51 = .ok (.iload 4, 2) ∧ decode (ia_code 244) 53 = .ok (.aload_n 0, 1) ∧ decode (ia_code 244) 54 = .ok (.getfield 33, 3) ∧ decode (ia_code 244) 57 = .ok (.bipush 25, 2) ∧ decode (ia_code 244) 59 = .ok (.iload 5, 2) ∧ decode (ia_code 244) 61 = .ok (.iadd, 1) ∧ decode (ia_code 244) 62 = .ok (.iaload, 1) ∧ decode (ia_code 244) 63 = .ok (.invokestatic 294, 3) ∧ decode (ia_code 244) 66 = .ok (.istore 4, 2) ∧ decode (ia_code 244) 68 = .ok (.iinc 5 1, 3) ∧ decode (ia_code 244) 71 = .ok (.goto (-57), 3) ∧ decode (ia_code 244) 74 = .ok (.iload_n 3, 1) ∧ decode (ia_code 244) 75 = .ok (.iload 4, 2) ∧ decode (ia_code 244) 77 = .ok (.isub, 1) ∧ decode (ia_code 244) 78 = .ok (.iload_n 1, 1) ∧ decode (ia_code 244) 79 = .ok (.if_icmp .lt 7, 3) ∧ decode (ia_code 244) 82 = .ok (.iconst (-1), 1) ∧ decode (ia_code 244) 83 = .ok (.goto 10, 3) ∧ decode (ia_code 244) 86 = .ok (.iconst 0, 1) ∧ decode (ia_code 244) 87 = .ok (.iload_n 1, 1) ∧ decode (ia_code 244) 88 = .ok (.iload_n 3, 1) ∧ decode (ia_code 244) 89 = .ok (.isub, 1) ∧ decode (ia_code 244) 90 = .ok (.invokestatic 294, 3) ∧ decode (ia_code 244) 93 = .ok (.ireturn, 1) := by
  refine ⟨?_, ?_, ?_, ?_, ?_, ?_, ?_, ?_, ?_, ?_, ?_, ?_, ?_, ?_, ?_, ?_, ?_, ?_, ?_, ?_, ?_, ?_, ?_, ?_, ?_, ?_, ?_, ?_, ?_, ?_, ?_, ?_, ?_, ?_, ?_, ?_, ?_, ?_, ?_, ?_, ?_, ?_, ?_, ?_, ?_, ?_, ?_, ?_, ?_, ?_, ?_, ?_, ?_, ?_, ?_, ?_, ?_, ?_⟩ <;> decide +kernel
set_option maxRecDepth 100000 in
theorem hbh_m : ia_maxL 244 = 7 ∧ ia_ret 244 = some .int ∧ wk_gf 244 33 184 6 (186 + 3) = true ∧ wk_ar 186 50 301 = true ∧ ia_pl (ia_cls 244) 294 = some (1, 257, 1, 0, 1826) ∧ ia_na 257 = 2 ∧ (ia_mc 257 = 0 ∧ ia_ms 257 = 0) := ⟨by decide +kernel, by decide +kernel, by decide +kernel, by decide +kernel, by decide +kernel, by decide +kernel, ⟨by decide +kernel, by decide +kernel⟩⟩
theorem hbh_ix : ∀ j, j < 4 → ((Int8.ofInt 25).toInt32 + Int32.ofNat j).toInt = 25 + (j : Int) := by decide
/-- all and most, n foods more -/
def hbh (st : Nat → Int32) (p : Int32) : Nat → Nat → Int32 → Int32 → Int32 × Int32
  | 0, _, a, m => (a, m)
  | n + 1, j, a, m => hbh st p n (j + 1) (a + hu_n p j * st j) (if 0 < hu_n p j then (if st j < m then m else st j) else m)
def hbhR (h : Int32) (q : Int32 × Int32) : Int32 := if q.1 - q.2 < h then (if h - q.1 < Int32.ofInt 0 then Int32.ofInt 0 else h - q.1) else Int32.ofInt (-1)
theorem hbh_loop (w : cm_W) (h p : Int32) (Q : cm_O → Prop) : ∀ (n j : Nat) (a m : Int32) (o6 : Option cm_V), n + j = 4 → Q (some (.inl (hbhR h (hbh (fun j => w.1 186 (25 + j)) p n j a m))), w) → cm_X (cm_C 1) 244 14 [some (.inr (.inr (some 184))), some (.inl h), some (.inl p), some (.inl a), some (.inl m), some (.inl (Int32.ofNat j)), o6] [] w Q := by
  obtain ⟨d0, d1, d4, d5, d6, d7, d8, d9, d11, d12, d14, d16, d17, d20, d21, d22, d24, d25, d26, d27, d28, d30, d31, d33, d34, d37, d39, d41, d42, d43, d44, d45, d46, d48, d51, d53, d54, d57, d59, d61, d62, d63, d66, d68, d71, d74, d75, d77, d78, d79, d82, d83, d86, d87, d88, d89, d90, d93⟩ := hbh_d
  obtain ⟨m1, m2, m3, m4, m5, m6, m7⟩ := hbh_m
  intro n
  induction n with
  | zero =>
    intro j a m o6 hj hQ
    have ej : j = 4 := by omega
    subst ej
    refine wk_iload d14 rfl ?_
    refine wk_iconst d16 ?_
    refine wk_icmp d17 (t := 74) rfl (fun _ => ?_) (fun hc => ?_)
    rotate_left
    · rw [hu_ge4] at hc
      cases hc
    refine wk_iload_n d74 rfl ?_
    refine wk_iload d75 rfl ?_
    refine wk_isub d77 ?_
    refine wk_iload_n d78 rfl ?_
    have hQ' : Q (some (.inl (hbhR h (a, m))), w) := hQ
    unfold hbhR at hQ'
    refine wk_icmp d79 (t := 86) rfl (fun hc => ?_) (fun hc => ?_)
    · rw [if_pos (of_decide_eq_true hc)] at hQ'
      refine wk_iconst d86 ?_
      refine wk_iload_n d87 rfl ?_
      refine wk_iload_n d88 rfl ?_
      refine wk_isub d89 ?_
      refine wk_call (kd := 1) (i := 294) d90 rfl (wk_cal (as := [.inl (Int32.ofInt 0), .inl (h - a)]) (t := []) m5 rfl m6 m7 rfl rfl rfl rfl) (hgr_ok (Int32.ofInt 0) (h - a) w) ?_
      exact wk_ireturn d93 m2 rfl hQ'
    · rw [if_neg (of_decide_eq_false hc)] at hQ'
      refine wk_iconst d82 ?_
      refine wk_goto d83 (t := 93) rfl ?_
      exact wk_ireturn d93 m2 rfl hQ'
  | succ n ih =>
    intro j a m o6 hj hQ
    have hj4 : j < 4 := by omega
    have hix := hbh_ix j hj4
    unfold hbh at hQ
    refine wk_iload d14 rfl ?_
    refine wk_iconst d16 ?_
    refine wk_icmp d17 (t := 74) rfl (fun hc => ?_) (fun _ => ?_)
    · rw [hpl_ge j hj4] at hc
      cases hc
    refine wk_iload_n d20 rfl ?_
    refine wk_iconst d21 ?_
    refine wk_iload d22 rfl ?_
    refine wk_imul d24 ?_
    refine wk_ishr d25 ?_
    refine wk_iconst d26 ?_
    refine wk_iand d27 ?_
    refine wk_istore d28 (by rw [m1]; rfl) rfl ?_
    refine wk_iload_n d30 rfl ?_
    refine wk_iload d31 rfl ?_
    refine wk_aload_n d33 rfl ?_
    refine wk_getR m3 d34 ?_
    refine wk_bipush d37 ?_
    refine wk_iload d39 rfl ?_
    refine wk_iadd d41 ?_
    refine wk_iaload m4 (by rw [hix]; omega) (by rw [hix]; omega) d42 ?_
    rw [hix, show (25 + (j : Int)).toNat = 25 + j from by omega]
    refine wk_imul d43 ?_
    refine wk_iadd d44 ?_
    refine wk_istore_n d45 (by rw [m1]; rfl) rfl ?_
    refine wk_iload d46 rfl ?_
    refine wk_if d48 (t := 68) rfl (fun hc => ?_) (fun hc => ?_)
    · have hn : ¬ 0 < hu_n p j := (wk_ltn hc).1 rfl
      rw [if_neg hn] at hQ
      refine wk_iinc d68 (by rw [m1]; rfl) rfl rfl ?_
      refine wk_goto d71 (t := 14) rfl ?_
      rw [hu_inc j hj4]
      exact ih (j + 1) _ _ _ (by omega) hQ
    · have hn : 0 < hu_n p j := (wk_ltn hc).2 rfl
      rw [if_pos hn] at hQ
      refine wk_iload d51 rfl ?_
      refine wk_aload_n d53 rfl ?_
      refine wk_getR m3 d54 ?_
      refine wk_bipush d57 ?_
      refine wk_iload d59 rfl ?_
      refine wk_iadd d61 ?_
      refine wk_iaload m4 (by rw [hix]; omega) (by rw [hix]; omega) d62 ?_
      rw [hix, show (25 + (j : Int)).toNat = 25 + j from by omega]
      refine wk_call (kd := 1) (i := 294) d63 rfl (wk_cal (as := [.inl m, .inl (w.1 186 (25 + j))]) (t := []) m5 rfl m6 m7 rfl rfl rfl rfl) (hgr_ok m (w.1 186 (25 + j)) w) ?_
      refine wk_istore d66 (by rw [m1]; rfl) rfl ?_
      refine wk_iinc d68 (by rw [m1]; rfl) rfl rfl ?_
      refine wk_goto d71 (t := 14) rfl ?_
      rw [hu_inc j hj4]
      exact ih (j + 1) _ _ _ (by omega) hQ
def hbhF (w : cm_W) (h p : Int32) : Int32 := if p = 0 then h else hbhR h (hbh (fun j => w.1 186 (25 + j)) p 4 0 (Int32.ofInt 0) (Int32.ofInt 0))
theorem hbh_ok (h p : Int32) (w : cm_W) : cm_C 2 244 [.inr (.inr (some 184)), .inl h, .inl p] w (some (.inl (hbhF w h p)), w) := by
  obtain ⟨d0, d1, d4, d5, d6, d7, d8, d9, d11, d12, d14, d16, d17, d20, d21, d22, d24, d25, d26, d27, d28, d30, d31, d33, d34, d37, d39, d41, d42, d43, d44, d45, d46, d48, d51, d53, d54, d57, d59, d61, d62, d63, d66, d68, d71, d74, d75, d77, d78, d79, d82, d83, d86, d87, d88, d89, d90, d93⟩ := hbh_d
  obtain ⟨m1, m2, m3, m4, m5, m6, m7⟩ := hbh_m
  refine wk_exact (d := 1) (by rw [m1]; exact Nat.le_of_ble_eq_true rfl) ?_
  rw [show cm_ent 244 [.inr (.inr (some 184)), .inl h, .inl p] = [some (.inr (.inr (some 184))), some (.inl h), some (.inl p), none, none, none, none] from by unfold cm_ent; rw [m1]; rfl]
  unfold hbhF
  refine wk_iload_n d0 rfl ?_
  refine wk_if d1 (t := 6) rfl (fun hc => ?_) (fun hc => ?_)
  · have hz : ¬ p = 0 := fun z => by
      have hc' : (!(decide (p = 0))) = true := hc
      rw [decide_eq_true z] at hc'
      cases hc'
    rw [if_neg hz]
    refine wk_iconst d6 ?_
    refine wk_istore_n d7 (by rw [m1]; rfl) rfl ?_
    refine wk_iconst d8 ?_
    refine wk_istore d9 (by rw [m1]; rfl) rfl ?_
    refine wk_iconst d11 ?_
    refine wk_istore d12 (by rw [m1]; rfl) rfl ?_
    exact hbh_loop w h p _ 4 0 _ _ none rfl rfl
  · have hz : p = 0 := by
      have hc' : (!(decide (p = 0))) = false := hc
      by_cases z : p = 0
      · exact z
      · rw [decide_eq_false z] at hc'; cases hc'
    rw [if_pos hz]
    refine wk_iload_n d4 rfl ?_
    exact wk_ireturn d5 m2 rfl rfl
set_option maxRecDepth 100000 in
theorem hfr_d : decode (ia_code 260) 0 = .ok (.aload_n 0, 1) ∧ decode (ia_code 260) 1 = .ok (.iload_n 2, 1) ∧ decode (ia_code 260) 2 = .ok (.invokevirtual 325, 3) ∧ decode (ia_code 260) 5 = .ok (.ifCond .eq 20, 3) ∧ decode (ia_code 260) 8 = .ok (.aload_n 0, 1) ∧ decode (ia_code 260) 9 = .ok (.aload_n 0, 1) ∧ decode (ia_code 260) 10 = .ok (.getfield 33, 3) ∧ decode (ia_code 260) 13 = .ok (.bipush 82, 2) ∧ decode (ia_code 260) 15 = .ok (.iload_n 1, 1) ∧ decode (ia_code 260) 16 = .ok (.iadd, 1) ∧ decode (ia_code 260) 17 = .ok (.iaload, 1) ∧ decode (ia_code 260) 18 = .ok (.iload_n 2, 1) ∧ decode (ia_code 260) 19 = .ok (.invokevirtual 328, 3) ∧ decode (ia_code 260) 22 = .ok (.goto 4, 3) ∧ decode (ia_code 260) 25 = .ok (.iconst (-1), 1) ∧ decode (ia_code 260) 26 = .ok (.istore 4, 2) ∧ decode (ia_code 260) 28 = .ok (.iload 4, 2) ∧ decode (ia_code 260) 30 = .ok (.ifCond .lt 20, 3) ∧ decode (ia_code 260) 33 = .ok (.iload 4, 2) ∧ decode (ia_code 260) 35 = .ok (.aload_n 0, 1) ∧ decode (ia_code 260) 36 = .ok (.getfield 33, 3) ∧ decode (ia_code 260) 39 = .ok (.iconst 4, 1) ∧ decode (ia_code 260) 40 = .ok (.iaload, 1) ∧ decode (ia_code 260) 41 = .ok (.idiv, 1) ∧ decode (ia_code 260) 42 = .ok (.iload_n 3, 1) ∧ decode (ia_code 260) 43 = .ok (.if_icmp .ne 7, 3) ∧ decode (ia_code 260) 46 = .ok (.iconst 1, 1) ∧ decode (ia_code 260) 47 = .ok (.goto 4, 3) ∧ decode (ia_code 260) 50 = .ok (.iconst 0, 1) ∧ decode (ia_code 260) 51 = .ok (.ireturn, 1) := by
  refine ⟨?_, ?_, ?_, ?_, ?_, ?_, ?_, ?_, ?_, ?_, ?_, ?_, ?_, ?_, ?_, ?_, ?_, ?_, ?_, ?_, ?_, ?_, ?_, ?_, ?_, ?_, ?_, ?_, ?_, ?_⟩ <;> decide +kernel
set_option maxRecDepth 100000 in
theorem hfr_m : ia_maxL 260 = 5 ∧ ia_ret 260 = some .boolean ∧ wk_gf 260 33 184 6 (186 + 3) = true ∧ wk_ar 186 50 301 = true ∧ ia_pl (ia_cls 260) 325 = some (1, 265, 0, 0, 1892) ∧ ia_na 265 = 2 ∧ (ia_mc 265 = 0 ∧ ia_ms 265 = 0) ∧ ia_pl (ia_cls 260) 328 = some (1, 244, 0, 0, 1899) ∧ ia_na 244 = 3 ∧ (ia_mc 244 = 0 ∧ ia_ms 244 = 0) ∧ cm_rcv 265 [.inr (.inr (some 184)), .inl 0] = true ∧ cm_rcv 244 [.inr (.inr (some 184)), .inl 0, .inl 0] = true := ⟨by decide +kernel, by decide +kernel, by decide +kernel, by decide +kernel, by decide +kernel, by decide +kernel, ⟨by decide +kernel, by decide +kernel⟩, by decide +kernel, by decide +kernel, ⟨by decide +kernel, by decide +kernel⟩, by decide +kernel, by decide +kernel⟩
theorem hfr_c4 : (Int32.ofInt 4).toInt = 4 := by decide
theorem hfr_ix {m : Int32} {k : Int} (h : m.toInt = k) (h0 : 0 ≤ k) (h1 : k < 6) : ((Int8.ofInt 82).toInt32 + m).toInt = 82 + k := by
  have e1 : ((Int8.ofInt 82).toInt32).toInt = 82 := by decide
  rw [Int32.toInt_add, e1, h]
  exact Int.bmod_eq_of_le (by omega) (by omega)
def hfrH (w : cm_W) (m p : Int32) : Int32 := if hpt w p = true then hbhF w (w.1 186 (82 + m.toInt.toNat)) p else Int32.ofInt (-1)
/-- isFor -/
def hfr (w : cm_W) (m p d : Int32) : Bool := !(decide (hfrH w m p < 0)) && decide (hfrH w m p / w.1 186 4 = d)
theorem hfr_ok (m p d : Int32) (w : cm_W) (h0 : 0 ≤ (w.1 186 1).toInt) (h4 : (w.1 186 1).toInt ≤ 4) (hs : w.1 186 4 ≠ 0) (hm0 : 0 ≤ m.toInt) (hm1 : m.toInt < 6) : cm_C 3 260 [.inr (.inr (some 184)), .inl m, .inl p, .inl d] w (some (.inl (hbI (hfr w m p d))), w) := by
  obtain ⟨d0, d1, d2, d5, d8, d9, d10, d13, d15, d16, d17, d18, d19, d22, d25, d26, d28, d30, d33, d35, d36, d39, d40, d41, d42, d43, d46, d47, d50, d51⟩ := hfr_d
  obtain ⟨m1, m2, m3, m4, m5, m6, m7, n5, n6, n7, r1, r2⟩ := hfr_m
  refine wk_exact (d := 2) (by rw [m1]; exact Nat.le_of_ble_eq_true rfl) ?_
  rw [show cm_ent 260 [.inr (.inr (some 184)), .inl m, .inl p, .inl d] = [some (.inr (.inr (some 184))), some (.inl m), some (.inl p), some (.inl d), none] from by unfold cm_ent; rw [m1]; rfl]
  have hix := hfr_ix (m := m) rfl hm0 hm1
  have tail : ∀ x, x = hfrH w m p → cm_X (cm_C 2) 260 26 [some (.inr (.inr (some 184))), some (.inl m), some (.inl p), some (.inl d), none] [.inl x] w (fun o' => o' = (some (.inl (hbI (hfr w m p d))), w)) := fun x e => by
    unfold hfr
    rw [← e]
    refine wk_istore d26 (by rw [m1]; rfl) rfl ?_
    refine wk_iload d28 rfl ?_
    refine wk_if d30 (t := 50) rfl (fun hc => ?_) (fun hc => ?_)
    · refine wk_iconst d50 ?_
      refine wk_ireturn d51 m2 wk_z0 ?_
      rw [show decide (x < 0) = true from hc]
      rfl
    · rw [show decide (x < 0) = false from hc]
      refine wk_iload d33 rfl ?_
      refine wk_aload_n d35 rfl ?_
      refine wk_getR m3 d36 ?_
      refine wk_iconst d39 ?_
      refine wk_iaload m4 (by rw [hfr_c4]; decide) (by rw [hfr_c4]; decide) d40 ?_
      rw [hfr_c4]
      refine wk_idiv d41 hs ?_
      refine wk_iload_n d42 rfl ?_
      refine wk_icmp d43 (t := 50) rfl (fun hc => ?_) (fun hc => ?_)
      · have hz : decide (x / w.1 186 4 = d) = false := by
          have hc' : (!(decide (x / w.1 186 4 = d))) = true := hc
          cases hz : decide (x / w.1 186 4 = d) with
          | false => rfl
          | true => rw [hz] at hc'; cases hc'
        refine wk_iconst d50 ?_
        refine wk_ireturn d51 m2 wk_z0 ?_
        rw [hz]
        rfl
      · have hz : decide (x / w.1 186 4 = d) = true := by
          have hc' : (!(decide (x / w.1 186 4 = d))) = false := hc
          cases hz : decide (x / w.1 186 4 = d) with
          | true => rfl
          | false => rw [hz] at hc'; cases hc'
        refine wk_iconst d46 ?_
        refine wk_goto d47 (t := 51) rfl ?_
        refine wk_ireturn d51 m2 wk_z1 ?_
        rw [hz]
        rfl
  refine wk_aload_n d0 rfl ?_
  refine wk_iload_n d1 rfl ?_
  refine wk_call (kd := 0) (i := 325) d2 rfl (wk_cal (as := [.inr (.inr (some 184)), .inl p]) (t := []) m5 rfl m6 m7 rfl rfl r1 rfl) (hpl_ok p w h0 h4) ?_
  refine wk_if d5 (t := 25) rfl (fun hc => ?_) (fun hc => ?_)
  · have hb := (hbI_0 hc).1 rfl
    refine wk_iconst d25 ?_
    exact tail _ (by unfold hfrH; rw [hb]; rfl)
  · have hb := (hbI_0 hc).2 rfl
    refine wk_aload_n d8 rfl ?_
    refine wk_aload_n d9 rfl ?_
    refine wk_getR m3 d10 ?_
    refine wk_bipush d13 ?_
    refine wk_iload_n d15 rfl ?_
    refine wk_iadd d16 ?_
    refine wk_iaload m4 (by rw [hix]; omega) (by rw [hix]; omega) d17 ?_
    rw [hix, show (82 + m.toInt).toNat = 82 + m.toInt.toNat from by omega]
    refine wk_iload_n d18 rfl ?_
    refine wk_call (kd := 0) (i := 328) d19 rfl (wk_cal (as := [.inr (.inr (some 184)), .inl (w.1 186 (82 + m.toInt.toNat)), .inl p]) (t := []) n5 rfl n6 n7 rfl rfl r2 rfl) (hbh_ok _ p w) ?_
    refine wk_goto d22 (t := 26) rfl ?_
    exact tail _ (by unfold hfrH; rw [if_pos hb])

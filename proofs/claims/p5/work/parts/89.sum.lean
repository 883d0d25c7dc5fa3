/-! ## by hand: sum and mostOf of the reference, exactly (wip/p2/gentab10.py) -/
set_option maxRecDepth 100000 in
theorem hsu_d : decode (ia_code 142) 0 = .ok (.iconst 0, 1) ∧ decode (ia_code 142) 1 = .ok (.istore_n 3, 1) ∧ decode (ia_code 142) 2 = .ok (.iconst 0, 1) ∧ decode (ia_code 142) 3 = .ok (.istore 4, 2) ∧ decode (ia_code 142) 5 = .ok (.iload 4, 2) ∧ decode (ia_code 142) 7 = .ok (.iload_n 2, 1) ∧ decode (ia_code 142) 8 = .ok (.if_icmp .ge 21, 3) ∧ decode (ia_code 142) 11 = .ok (.iload_n 3, 1) ∧ decode (ia_code 142) 12 = .ok (.aload_n 0, 1) ∧ decode (ia_code 142) 13 = .ok (.getfield 33, 3) ∧ decode (ia_code 142) 16 = .ok (.iload_n 1, 1) ∧ decode (ia_code 142) 17 = .ok (.iload 4, 2) ∧ decode (ia_code 142) 19 = .ok (.iadd, 1) ∧ decode (ia_code 142) 20 = .ok (.iaload, 1) ∧ decode (ia_code 142) 21 = .ok (.iadd, 1) ∧ decode (ia_code 142) 22 = .ok (.istore_n 3, 1) ∧ decode (ia_code 142) 23 = .ok (.iinc 4 1, 3) ∧ decode (ia_code 142) 26 = .ok (.goto (-21), 3) ∧ decode (ia_code 142) 29 = .ok (.iload_n 3, 1) ∧ decode (ia_code 142) 30 = .ok (.ireturn, 1) := by
  refine ⟨?_, ?_, ?_, ?_, ?_, ?_, ?_, ?_, ?_, ?_, ?_, ?_, ?_, ?_, ?_, ?_, ?_, ?_, ?_, ?_⟩ <;> decide +kernel
set_option maxRecDepth 100000 in
theorem hsu_m : ia_maxL 142 = 5 ∧ ia_ret 142 = some .int ∧ wk_gf 142 33 184 6 (186 + 3) = true ∧ wk_ar 186 50 301 = true := ⟨by decide +kernel, by decide +kernel, by decide +kernel, by decide +kernel⟩
/-- the sum of n slots from j on -/
def hsg (f : Nat → Int32) : Nat → Nat → Int32 → Int32
  | 0, _, a => a
  | n + 1, j, a => hsg f n (j + 1) (a + f j)
theorem hsu_ix : ∀ j, j < 4 → ((Int8.ofInt 100).toInt32 + Int32.ofNat j).toInt = ((100 + j : Nat) : Int) := by decide
theorem hsu_4 : cm_cmp .ge (Int32.ofNat 4) (Int32.ofInt 4) = true := by decide
theorem hsu_l (w : cm_W) : ∀ (n j : Nat) (a : Int32), n + j = 4 → cm_X (cm_C 0) 142 5 [some (.inr (.inr (some 184))), some (.inl (Int8.ofInt 100).toInt32), some (.inl (Int32.ofInt 4)), some (.inl a), some (.inl (Int32.ofNat j))] [] w (fun o' => o' = (some (.inl (hsg (fun j => w.1 186 (100 + j)) n j a)), w)) := by
  obtain ⟨d0, d1, d2, d3, d5, d7, d8, d11, d12, d13, d16, d17, d19, d20, d21, d22, d23, d26, d29, d30⟩ := hsu_d
  obtain ⟨m1, m2, gs, as_⟩ := hsu_m
  intro n
  induction n with
  | zero =>
    intro j a hj
    have e : j = 4 := by omega
    subst e
    refine wk_iload d5 rfl ?_
    refine wk_iload_n d7 rfl ?_
    refine wk_icmp d8 (t := 29) rfl (fun _ => ?_) (fun hc => ?_)
    · refine wk_iload_n d29 rfl ?_
      exact wk_ireturn d30 m2 rfl rfl
    · rw [hsu_4] at hc
      cases hc
  | succ n ih =>
    intro j a hj
    have hix := hsu_ix j (by omega)
    refine wk_iload d5 rfl ?_
    refine wk_iload_n d7 rfl ?_
    refine wk_icmp d8 (t := 29) rfl (fun hc => ?_) (fun _ => ?_)
    · rw [hpl_ge j (by omega)] at hc
      cases hc
    refine wk_iload_n d11 rfl ?_
    refine wk_aload_n d12 rfl ?_
    refine wk_getR gs d13 ?_
    refine wk_iload_n d16 rfl ?_
    refine wk_iload d17 rfl ?_
    refine wk_iadd d19 ?_
    refine wk_iaload as_ (by rw [hix]; omega) (by rw [hix]; omega) d20 ?_
    rw [hix, show ((100 + j : Nat) : Int).toNat = 100 + j from by omega]
    refine wk_iadd d21 ?_
    refine wk_istore_n d22 (by rw [m1]; rfl) rfl ?_
    refine wk_iinc d23 (by rw [m1]; rfl) rfl rfl ?_
    refine wk_goto d26 (t := 5) rfl ?_
    rw [hk_inc j (by omega)]
    exact ih (j + 1) _ (by omega)
theorem hsu_ok (w : cm_W) : cm_C 1 142 [.inr (.inr (some 184)), .inl (Int8.ofInt 100).toInt32, .inl (Int32.ofInt 4)] w (some (.inl (hsg (fun j => w.1 186 (100 + j)) 4 0 (Int32.ofInt 0))), w) := by
  obtain ⟨d0, d1, d2, d3, d5, d7, d8, d11, d12, d13, d16, d17, d19, d20, d21, d22, d23, d26, d29, d30⟩ := hsu_d
  obtain ⟨m1, m2, gs, as_⟩ := hsu_m
  refine wk_exact (d := 0) (by rw [m1]; exact Nat.le_of_ble_eq_true rfl) ?_
  rw [show cm_ent 142 [.inr (.inr (some 184)), .inl (Int8.ofInt 100).toInt32, .inl (Int32.ofInt 4)] = [some (.inr (.inr (some 184))), some (.inl (Int8.ofInt 100).toInt32), some (.inl (Int32.ofInt 4)), none, none] from by unfold cm_ent; rw [m1]; rfl]
  refine wk_iconst d0 ?_
  refine wk_istore_n d1 (by rw [m1]; rfl) rfl ?_
  refine wk_iconst d2 ?_
  refine wk_istore d3 (by rw [m1]; rfl) rfl ?_
  exact hsu_l w 4 0 _ rfl
/-- no sum wraps: slots of 0 to 5 -/
theorem hsg_to (f : Nat → Int32) (hf : ∀ j, j < 4 → 0 ≤ (f j).toInt ∧ (f j).toInt ≤ 5) : (hsg f 4 0 (Int32.ofInt 0)).toInt = (f 0).toInt + (f 1).toInt + (f 2).toInt + (f 3).toInt := by
  have h0 := hf 0 (by omega)
  have h1 := hf 1 (by omega)
  have h2 := hf 2 (by omega)
  have h3 := hf 3 (by omega)
  have z : (Int32.ofInt 0).toInt = 0 := by decide
  have e1 : (Int32.ofInt 0 + f 0).toInt = (f 0).toInt := by
    rw [Int32.toInt_add, z, Int.zero_add]
    exact Int.bmod_eq_of_le (by omega) (by omega)
  have e2 : (Int32.ofInt 0 + f 0 + f 1).toInt = (f 0).toInt + (f 1).toInt := by
    rw [Int32.toInt_add, e1]
    exact Int.bmod_eq_of_le (by omega) (by omega)
  have e3 : (Int32.ofInt 0 + f 0 + f 1 + f 2).toInt = (f 0).toInt + (f 1).toInt + (f 2).toInt := by
    rw [Int32.toInt_add, e2]
    exact Int.bmod_eq_of_le (by omega) (by omega)
  show (Int32.ofInt 0 + f 0 + f 1 + f 2 + f 3).toInt = _
  rw [Int32.toInt_add, e3]
  exact Int.bmod_eq_of_le (by omega) (by omega)
set_option maxRecDepth 100000 in
theorem hmo_d : decode (ia_code 275) 0 = .ok (.iconst 0, 1) ∧ decode (ia_code 275) 1 = .ok (.istore_n 1, 1) ∧ decode (ia_code 275) 2 = .ok (.iconst 1, 1) ∧ decode (ia_code 275) 3 = .ok (.istore_n 2, 1) ∧ decode (ia_code 275) 4 = .ok (.iload_n 2, 1) ∧ decode (ia_code 275) 5 = .ok (.aload_n 0, 1) ∧ decode (ia_code 275) 6 = .ok (.getfield 33, 3) ∧ decode (ia_code 275) 9 = .ok (.iconst 1, 1) ∧ decode (ia_code 275) 10 = .ok (.iaload, 1) ∧ decode (ia_code 275) 11 = .ok (.if_icmp .ge 32, 3) ∧ decode (ia_code 275) 14 = .ok (.aload_n 0, 1) ∧ decode (ia_code 275) 15 = .ok (.getfield 33, 3) ∧ decode (ia_code 275) 18 = .ok (.bipush 100, 2) ∧ decode (ia_code 275) 20 = .ok (.iload_n 2, 1) ∧ decode (ia_code 275) 21 = .ok (.iadd, 1) ∧ decode (ia_code 275) 22 = .ok (.iaload, 1) ∧ decode (ia_code 275) 23 = .ok (.aload_n 0, 1) ∧ decode (ia_code 275) 24 = .ok (.getfield 33, 3) ∧ decode (ia_code 275) 27 = .ok (.bipush 100, 2) ∧ decode (ia_code 275) 29 = .ok (.iload_n 1, 1) ∧ decode (ia_code 275) 30 = .ok (.iadd, 1) ∧ decode (ia_code 275) 31 = .ok (.iaload, 1) ∧ decode (ia_code 275) 32 = .ok (.if_icmp .le 5, 3) ∧ decode (ia_code 275) 35 = .ok (.iload_n 2, 1) ∧ decode (ia_code 275) 36 = .ok (.istore_n 1, 1) ∧ decode (ia_code 275) 37 = .ok (.iinc 2 1, 3) ∧ decode (ia_code 275) 40 = .ok (.goto (-36), 3) ∧ decode (ia_code 275) 43 = .ok (.iload_n 1, 1) ∧ decode (ia_code 275) 44 = .ok (.ireturn, 1) := by
  refine ⟨?_, ?_, ?_, ?_, ?_, ?_, ?_, ?_, ?_, ?_, ?_, ?_, ?_, ?_, ?_, ?_, ?_, ?_, ?_, ?_, ?_, ?_, ?_, ?_, ?_, ?_, ?_, ?_, ?_⟩ <;> decide +kernel
set_option maxRecDepth 100000 in
theorem hmo_m : ia_maxL 275 = 3 ∧ ia_ret 275 = some .int ∧ wk_gf 275 33 184 6 (186 + 3) = true ∧ wk_ar 186 50 301 = true := ⟨by decide +kernel, by decide +kernel, by decide +kernel, by decide +kernel⟩
theorem hmo_c1 : (Int32.ofInt 1).toInt = 1 := by decide
theorem hmo_l (w : cm_W) (F : Nat) (hF : (w.1 186 1).toInt = (F : Int)) (hF4 : F ≤ 4) : ∀ (n j b : Nat), (n + j = F ∨ (n = 0 ∧ F ≤ j)) → j < 5 → b < 4 → (∀ i, i < j → i < F → (w.1 186 (100 + i)).toInt ≤ (w.1 186 (100 + b)).toInt) → cm_X (cm_C 0) 275 4 [some (.inr (.inr (some 184))), some (.inl (Int32.ofNat b)), some (.inl (Int32.ofNat j))] [] w (fun o' => ∃ m, o' = (some (.inl (Int32.ofNat m)), w) ∧ m < 4 ∧ ∀ i, i < F → (w.1 186 (100 + i)).toInt ≤ (w.1 186 (100 + m)).toInt) := by
  obtain ⟨d0, d1, d2, d3, d4, d5, d6, d9, d10, d11, d14, d15, d18, d20, d21, d22, d23, d24, d27, d29, d30, d31, d32, d35, d36, d37, d40, d43, d44⟩ := hmo_d
  obtain ⟨m1, m2, gs, as_⟩ := hmo_m
  intro n
  induction n with
  | zero =>
    intro j b hj hj5 hb hmx
    refine wk_iload_n d4 rfl ?_
    refine wk_aload_n d5 rfl ?_
    refine wk_getR gs d6 ?_
    refine wk_iconst d9 ?_
    refine wk_iaload as_ (by rw [hmo_c1]; decide) (by rw [hmo_c1]; decide) d10 ?_
    rw [hmo_c1]
    show cm_X _ _ _ _ (.inl (w.1 186 1) :: _) _ _
    refine wk_icmp d11 (t := 43) rfl (fun _ => ?_) (fun hc => ?_)
    · refine wk_iload_n d43 rfl ?_
      exact wk_ireturn d44 m2 rfl ⟨b, rfl, hb, fun i hi => hmx i (by omega) hi⟩
    · have := (hk_ge (by omega) hF hc).2 rfl
      omega
  | succ n ih =>
    intro j b hj hj5 hb hmx
    have hj4 : j < 4 := by omega
    have hix := hsu_ix j hj4
    have hixb := hsu_ix b hb
    refine wk_iload_n d4 rfl ?_
    refine wk_aload_n d5 rfl ?_
    refine wk_getR gs d6 ?_
    refine wk_iconst d9 ?_
    refine wk_iaload as_ (by rw [hmo_c1]; decide) (by rw [hmo_c1]; decide) d10 ?_
    rw [hmo_c1]
    show cm_X _ _ _ _ (.inl (w.1 186 1) :: _) _ _
    refine wk_icmp d11 (t := 43) rfl (fun hc => ?_) (fun _ => ?_)
    · have := (hk_ge (by omega) hF hc).1 rfl
      omega
    refine wk_aload_n d14 rfl ?_
    refine wk_getR gs d15 ?_
    refine wk_bipush d18 ?_
    refine wk_iload_n d20 rfl ?_
    refine wk_iadd d21 ?_
    refine wk_iaload as_ (by rw [hix]; omega) (by rw [hix]; omega) d22 ?_
    rw [hix, show ((100 + j : Nat) : Int).toNat = 100 + j from by omega]
    refine wk_aload_n d23 rfl ?_
    refine wk_getR gs d24 ?_
    refine wk_bipush d27 ?_
    refine wk_iload_n d29 rfl ?_
    refine wk_iadd d30 ?_
    refine wk_iaload as_ (by rw [hixb]; omega) (by rw [hixb]; omega) d31 ?_
    rw [hixb, show ((100 + b : Nat) : Int).toNat = 100 + b from by omega]
    refine wk_icmp d32 (t := 37) rfl (fun hc => ?_) (fun hc => ?_)
    · have hle : cm_cmp .le (w.1 186 (100 + j)) (w.1 186 (100 + b)) = !(cm_cmp .lt (w.1 186 (100 + b)) (w.1 186 (100 + j))) := rfl
      rw [hle] at hc
      have hv := (hb_lt (b := false) (x := w.1 186 (100 + b)) (z := w.1 186 (100 + j)) (by cases hh : cm_cmp .lt (w.1 186 (100 + b)) (w.1 186 (100 + j)) with | true => rw [hh] at hc; cases hc | false => rfl)).2 rfl
      refine wk_iinc d37 (by rw [m1]; rfl) rfl rfl ?_
      refine wk_goto d40 (t := 4) rfl ?_
      rw [hk_inc j (by omega)]
      refine ih (j + 1) b (by omega) (by omega) hb (fun i hi hiF => ?_)
      rcases Nat.lt_or_eq_of_le (Nat.lt_succ_iff.mp hi) with h | h
      · exact hmx i h hiF
      · rw [h]; exact hv
    · have hle : cm_cmp .le (w.1 186 (100 + j)) (w.1 186 (100 + b)) = !(cm_cmp .lt (w.1 186 (100 + b)) (w.1 186 (100 + j))) := rfl
      rw [hle] at hc
      have hv := (hb_lt (b := true) (x := w.1 186 (100 + b)) (z := w.1 186 (100 + j)) (by cases hh : cm_cmp .lt (w.1 186 (100 + b)) (w.1 186 (100 + j)) with | false => rw [hh] at hc; cases hc | true => rfl)).1 rfl
      refine wk_iload_n d35 rfl ?_
      refine wk_istore_n d36 (by rw [m1]; rfl) rfl ?_
      refine wk_iinc d37 (by rw [m1]; rfl) rfl rfl ?_
      refine wk_goto d40 (t := 4) rfl ?_
      rw [hk_inc j (by omega)]
      refine ih (j + 1) j (by omega) (by omega) hj4 (fun i hi hiF => ?_)
      rcases Nat.lt_or_eq_of_le (Nat.lt_succ_iff.mp hi) with h | h
      · have := hmx i h hiF
        omega
      · rw [h]; exact Int.le_refl _
/-- mostOf: a food of which no other has more -/
theorem hmo_ok (w : cm_W) (F : Nat) (hF : (w.1 186 1).toInt = (F : Int)) (hF4 : F ≤ 4) : ∃ m, cm_C 1 275 [.inr (.inr (some 184))] w (some (.inl (Int32.ofNat m)), w) ∧ m < 4 ∧ ∀ i, i < F → (w.1 186 (100 + i)).toInt ≤ (w.1 186 (100 + m)).toInt := by
  obtain ⟨d0, d1, d2, d3, d4, d5, d6, d9, d10, d11, d14, d15, d18, d20, d21, d22, d23, d24, d27, d29, d30, d31, d32, d35, d36, d37, d40, d43, d44⟩ := hmo_d
  obtain ⟨m1, m2, gs, as_⟩ := hmo_m
  have h : ∃ o, cm_C (0 + 1) 275 [.inr (.inr (some 184))] w o ∧ (fun o' : cm_O => ∃ m, o' = (some (.inl (Int32.ofNat m)), w) ∧ m < 4 ∧ ∀ i, i < F → (w.1 186 (100 + i)).toInt ≤ (w.1 186 (100 + m)).toInt) o := by
    refine wk_entry (by rw [m1]; exact Nat.le_of_ble_eq_true rfl) ?_
    rw [show cm_ent 275 [.inr (.inr (some 184))] = [some (.inr (.inr (some 184))), none, none] from by unfold cm_ent; rw [m1]; rfl]
    refine wk_iconst d0 ?_
    refine wk_istore_n d1 (by rw [m1]; rfl) rfl ?_
    refine wk_iconst d2 ?_
    refine wk_istore_n d3 (by rw [m1]; rfl) rfl ?_
    refine hmo_l w F hF hF4 (F - 1) 1 0 (by omega) (by omega) (by omega) (fun i hi _ => ?_)
    rw [show i = 0 from by omega]
    exact Int.le_refl _
  obtain ⟨o, hC, m, rfl, a1, a2⟩ := h
  exact ⟨m, hC, a1, a2⟩

/-! ## by hand: portions, greater, lesser, bitOf, isPlate, behind, isFor of the reference, exactly (wip/p2/gentab2.py) -/
def hp (p : Int32) : Int32 := (p &&& Int32.ofInt 3) + ((p >>> (Int32.ofInt 2 &&& 31)) &&& Int32.ofInt 3) + ((p >>> (Int32.ofInt 4 &&& 31)) &&& Int32.ofInt 3) + (p >>> ((Int8.ofInt 6).toInt32 &&& 31))
theorem wk_exact {d y : Nat} {as : List cm_V} {w : cm_W} {o : cm_O} (hs : ia_sz (cm_es as) ≤ ia_maxL y) (h : cm_X (cm_C d) y 0 (cm_ent y as) [] w (fun o' => o' = o)) : cm_C (d + 1) y as w o := by
  obtain ⟨o', h1, rfl⟩ := wk_entry hs h
  exact h1
theorem wk_z0 : ia_nar .boolean (ia_E (Int32.ofInt 0)) = true := by decide
theorem wk_z1 : ia_nar .boolean (ia_E (Int32.ofInt 1)) = true := by decide
theorem wk_b1 : ∀ b : Bool, ia_nar .boolean (ia_E (if b = true then (Int32.ofInt 1) else Int32.ofInt 0)) = true := by decide
theorem wk_ltn {x z : Int32} {b : Bool} (h : (!(decide (x < z))) = b) : (b = true → ¬ x < z) ∧ (b = false → x < z) := by
  constructor
  · intro e hz
    rw [e, decide_eq_true hz] at h
    cases h
  · intro e
    by_cases hz : x < z
    · exact hz
    · rw [e, decide_eq_false hz] at h
      cases h
set_option maxRecDepth 100000 in
theorem hp_d : decode (ia_code 279) 0 = .ok (.iload_n 0, 1) ∧ decode (ia_code 279) 1 = .ok (.iconst 3, 1) ∧ decode (ia_code 279) 2 = .ok (.iand, 1) ∧ decode (ia_code 279) 3 = .ok (.iload_n 0, 1) ∧ decode (ia_code 279) 4 = .ok (.iconst 2, 1) ∧ decode (ia_code 279) 5 = .ok (.ishr, 1) ∧ decode (ia_code 279) 6 = .ok (.iconst 3, 1) ∧ decode (ia_code 279) 7 = .ok (.iand, 1) ∧ decode (ia_code 279) 8 = .ok (.iadd, 1) ∧ decode (ia_code 279) 9 = .ok (.iload_n 0, 1) ∧ decode (ia_code 279) 10 = .ok (.iconst 4, 1) ∧ decode (ia_code 279) 11 = .ok (.ishr, 1) ∧ decode (ia_code 279) 12 = .ok (.iconst 3, 1) ∧ decode (ia_code 279) 13 = .ok (.iand, 1) ∧ decode (ia_code 279) 14 = .ok (.iadd, 1) ∧ decode (ia_code 279) 15 = .ok (.iload_n 0, 1) ∧ decode (ia_code 279) 16 = .ok (.bipush 6, 2) ∧ decode (ia_code 279) 18 = .ok (.ishr, 1) ∧ decode (ia_code 279) 19 = .ok (.iadd, 1) ∧ decode (ia_code 279) 20 = .ok (.ireturn, 1) := by
  refine ⟨?_, ?_, ?_, ?_, ?_, ?_, ?_, ?_, ?_, ?_, ?_, ?_, ?_, ?_, ?_, ?_, ?_, ?_, ?_, ?_⟩ <;> decide +kernel
set_option maxRecDepth 100000 in
theorem hp_m : ia_maxL 279 = 1 ∧ ia_ret 279 = some .int := ⟨by decide +kernel, by decide +kernel⟩
theorem hp_ok (p : Int32) (w : cm_W) : cm_C 1 279 [.inl p] w (some (.inl (hp p)), w) := by
  obtain ⟨d0, d1, d2, d3, d4, d5, d6, d7, d8, d9, d10, d11, d12, d13, d14, d15, d16, d18, d19, d20⟩ := hp_d
  obtain ⟨m1, m2⟩ := hp_m
  refine wk_exact (d := 0) (by rw [m1]; exact Nat.le_of_ble_eq_true rfl) ?_
  rw [show cm_ent 279 [.inl p] = [some (.inl p)] from by unfold cm_ent; rw [m1]; rfl]
  refine wk_iload_n d0 rfl ?_
  refine wk_iconst d1 ?_
  refine wk_iand d2 ?_
  refine wk_iload_n d3 rfl ?_
  refine wk_iconst d4 ?_
  refine wk_ishr d5 ?_
  refine wk_iconst d6 ?_
  refine wk_iand d7 ?_
  refine wk_iadd d8 ?_
  refine wk_iload_n d9 rfl ?_
  refine wk_iconst d10 ?_
  refine wk_ishr d11 ?_
  refine wk_iconst d12 ?_
  refine wk_iand d13 ?_
  refine wk_iadd d14 ?_
  refine wk_iload_n d15 rfl ?_
  refine wk_bipush d16 ?_
  refine wk_ishr d18 ?_
  refine wk_iadd d19 ?_
  exact wk_ireturn d20 m2 rfl rfl
set_option maxRecDepth 100000 in
theorem hgr_d : decode (ia_code 257) 0 = .ok (.iload_n 0, 1) ∧ decode (ia_code 257) 1 = .ok (.iload_n 1, 1) ∧ decode (ia_code 257) 2 = .ok (.if_icmp .le 7, 3) ∧ decode (ia_code 257) 5 = .ok (.iload_n 0, 1) ∧ decode (ia_code 257) 6 = .ok (.goto 4, 3) ∧ decode (ia_code 257) 9 = .ok (.iload_n 1, 1) ∧ decode (ia_code 257) 10 = .ok (.ireturn, 1) := by
  refine ⟨?_, ?_, ?_, ?_, ?_, ?_, ?_⟩ <;> decide +kernel
set_option maxRecDepth 100000 in
theorem hgr_m : ia_maxL 257 = 2 ∧ ia_ret 257 = some .int := ⟨by decide +kernel, by decide +kernel⟩
theorem hgr_ok (a b : Int32) (w : cm_W) : cm_C 1 257 [.inl a, .inl b] w (some (.inl (if b < a then a else b)), w) := by
  obtain ⟨d0, d1, d2, d5, d6, d9, d10⟩ := hgr_d
  obtain ⟨m1, m2⟩ := hgr_m
  refine wk_exact (d := 0) (by rw [m1]; exact Nat.le_of_ble_eq_true rfl) ?_
  rw [show cm_ent 257 [.inl a, .inl b] = [some (.inl a), some (.inl b)] from by unfold cm_ent; rw [m1]; rfl]
  refine wk_iload_n d0 rfl ?_
  refine wk_iload_n d1 rfl ?_
  refine wk_icmp d2 (t := 9) rfl (fun hc => ?_) (fun hc => ?_)
  · have hn : ¬ b < a := (wk_ltn (x := b) (z := a) hc).1 rfl
    rw [if_neg hn]
    refine wk_iload_n d9 rfl ?_
    exact wk_ireturn d10 m2 rfl rfl
  · have hn : b < a := (wk_ltn (x := b) (z := a) hc).2 rfl
    rw [if_pos hn]
    refine wk_iload_n d5 rfl ?_
    refine wk_goto d6 (t := 10) rfl ?_
    exact wk_ireturn d10 m2 rfl rfl
set_option maxRecDepth 100000 in
theorem hle_d : decode (ia_code 272) 0 = .ok (.iload_n 0, 1) ∧ decode (ia_code 272) 1 = .ok (.iload_n 1, 1) ∧ decode (ia_code 272) 2 = .ok (.if_icmp .ge 7, 3) ∧ decode (ia_code 272) 5 = .ok (.iload_n 0, 1) ∧ decode (ia_code 272) 6 = .ok (.goto 4, 3) ∧ decode (ia_code 272) 9 = .ok (.iload_n 1, 1) ∧ decode (ia_code 272) 10 = .ok (.ireturn, 1) := by
  refine ⟨?_, ?_, ?_, ?_, ?_, ?_, ?_⟩ <;> decide +kernel
set_option maxRecDepth 100000 in
theorem hle_m : ia_maxL 272 = 2 ∧ ia_ret 272 = some .int := ⟨by decide +kernel, by decide +kernel⟩
theorem hle_ok (a b : Int32) (w : cm_W) : cm_C 1 272 [.inl a, .inl b] w (some (.inl (if a < b then a else b)), w) := by
  obtain ⟨d0, d1, d2, d5, d6, d9, d10⟩ := hle_d
  obtain ⟨m1, m2⟩ := hle_m
  refine wk_exact (d := 0) (by rw [m1]; exact Nat.le_of_ble_eq_true rfl) ?_
  rw [show cm_ent 272 [.inl a, .inl b] = [some (.inl a), some (.inl b)] from by unfold cm_ent; rw [m1]; rfl]
  refine wk_iload_n d0 rfl ?_
  refine wk_iload_n d1 rfl ?_
  refine wk_icmp d2 (t := 9) rfl (fun hc => ?_) (fun hc => ?_)
  · have hn : ¬ a < b := (wk_ltn (x := a) (z := b) hc).1 rfl
    rw [if_neg hn]
    refine wk_iload_n d9 rfl ?_
    exact wk_ireturn d10 m2 rfl rfl
  · have hn : a < b := (wk_ltn (x := a) (z := b) hc).2 rfl
    rw [if_pos hn]
    refine wk_iload_n d5 rfl ?_
    refine wk_goto d6 (t := 10) rfl ?_
    exact wk_ireturn d10 m2 rfl rfl
set_option maxRecDepth 100000 in
theorem hbt_d : decode (ia_code 245) 0 = .ok (.iload_n 0, 1) ∧ decode (ia_code 245) 1 = .ok (.iload_n 1, 1) ∧ decode (ia_code 245) 2 = .ok (.ishr, 1) ∧ decode (ia_code 245) 3 = .ok (.iconst 1, 1) ∧ decode (ia_code 245) 4 = .ok (.iand, 1) ∧ decode (ia_code 245) 5 = .ok (.iconst 1, 1) ∧ decode (ia_code 245) 6 = .ok (.if_icmp .ne 7, 3) ∧ decode (ia_code 245) 9 = .ok (.iconst 1, 1) ∧ decode (ia_code 245) 10 = .ok (.goto 4, 3) ∧ decode (ia_code 245) 13 = .ok (.iconst 0, 1) ∧ decode (ia_code 245) 14 = .ok (.ireturn, 1) := by
  refine ⟨?_, ?_, ?_, ?_, ?_, ?_, ?_, ?_, ?_, ?_, ?_⟩ <;> decide +kernel
set_option maxRecDepth 100000 in
theorem hbt_m : ia_maxL 245 = 2 ∧ ia_ret 245 = some .boolean := ⟨by decide +kernel, by decide +kernel⟩
def hbt (s k : Int32) : Bool := decide (((s >>> (k &&& 31)) &&& Int32.ofInt 1) = Int32.ofInt 1)
theorem hbt_ok (s k : Int32) (w : cm_W) : cm_C 1 245 [.inl s, .inl k] w (some (.inl (if hbt s k = true then Int32.ofInt 1 else Int32.ofInt 0)), w) := by
  obtain ⟨d0, d1, d2, d3, d4, d5, d6, d9, d10, d13, d14⟩ := hbt_d
  obtain ⟨m1, m2⟩ := hbt_m
  refine wk_exact (d := 0) (by rw [m1]; exact Nat.le_of_ble_eq_true rfl) ?_
  rw [show cm_ent 245 [.inl s, .inl k] = [some (.inl s), some (.inl k)] from by unfold cm_ent; rw [m1]; rfl]
  refine wk_iload_n d0 rfl ?_
  refine wk_iload_n d1 rfl ?_
  refine wk_ishr d2 ?_
  refine wk_iconst d3 ?_
  refine wk_iand d4 ?_
  refine wk_iconst d5 ?_
  refine wk_icmp d6 (t := 13) rfl (fun hc => ?_) (fun hc => ?_)
  · have hb : hbt s k = false := by
      have hc' : (!(hbt s k)) = true := hc
      cases hz : hbt s k with
      | false => rfl
      | true => rw [hz] at hc'; cases hc'
    rw [hb]
    refine wk_iconst d13 ?_
    exact wk_ireturn d14 m2 wk_z0 rfl
  · have hb : hbt s k = true := by
      have hc' : (!(hbt s k)) = false := hc
      cases hz : hbt s k with
      | true => rfl
      | false => rw [hz] at hc'; cases hc'
    rw [hb]
    refine wk_iconst d9 ?_
    refine wk_goto d10 (t := 14) rfl ?_
    exact wk_ireturn d14 m2 wk_z1 rfl

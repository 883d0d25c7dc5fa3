/-! ## by hand: usedBy of the reference -/
theorem hu_ix : ∀ j, j < 4 → ((Int8.ofInt 100).toInt32 + Int32.ofNat j).toInt = 100 + (j : Int) := by decide
theorem hu_ge : ∀ j, j < 4 → cm_cmp .ge (Int32.ofNat j) (Int32.ofInt 4) = false := by decide
theorem hu_ge4 : cm_cmp .ge (Int32.ofNat 4) (Int32.ofInt 4) = true := by decide
theorem hu_inc : ∀ j, j < 4 → Int32.ofNat j + Int32.ofInt 1 = Int32.ofNat (j + 1) := by decide
/-- one portion of a plate -/
def hu_n (p : Int32) (j : Nat) : Int32 := (p >>> ((Int32.ofInt 2 * Int32.ofNat j) &&& 31)) &&& Int32.ofInt 3
/-- what usedBy answers: n foods more, from food j on -/
def hu (st : Nat → Int32) (p : Int32) : Nat → Nat → Int32 → Int32 → Int32 → Int32
  | 0, _, t, _, _ => t
  | n + 1, j, t, u, r => if st j < (r - r / (Int8.ofInt 6).toInt32 * (Int8.ofInt 6).toInt32) + hu_n p j then Int32.ofInt (-1) else hu st p n (j + 1) (t + hu_n p j * u) (u * (Int8.ofInt 6).toInt32) (r / (Int8.ofInt 6).toInt32)
set_option maxRecDepth 100000 in
theorem hu_d : decode (ia_code 288) 0 = .ok (.iload_n 1, 1) ∧ decode (ia_code 288) 1 = .ok (.istore_n 3, 1) ∧ decode (ia_code 288) 2 = .ok (.iconst 1, 1) ∧ decode (ia_code 288) 3 = .ok (.istore 4, 2) ∧ decode (ia_code 288) 5 = .ok (.iload_n 1, 1) ∧ decode (ia_code 288) 6 = .ok (.istore 5, 2) ∧ decode (ia_code 288) 8 = .ok (.iconst 0, 1) ∧ decode (ia_code 288) 9 = .ok (.istore 6, 2) ∧ decode (ia_code 288) 11 = .ok (.iload 6, 2) ∧ decode (ia_code 288) 13 = .ok (.iconst 4, 1) ∧ decode (ia_code 288) 14 = .ok (.if_icmp .ge 64, 3) ∧ decode (ia_code 288) 17 = .ok (.iload_n 2, 1) ∧ decode (ia_code 288) 18 = .ok (.iconst 2, 1) ∧ decode (ia_code 288) 19 = .ok (.iload 6, 2) ∧ decode (ia_code 288) 21 = .ok (.imul, 1) ∧ decode (ia_code 288) 22 = .ok (.ishr, 1) ∧ decode (ia_code 288) 23 = .ok (.iconst 3, 1) ∧ decode (ia_code 288) 24 = .ok (.iand, 1) ∧ decode (ia_code 288) 25 = .ok (.istore 7, 2) ∧ decode (ia_code 288) 27 = .ok (.iload 5, 2) ∧ decode (ia_code 288) 29 = .ok (.bipush 6, 2) ∧ decode (ia_code 288) 31 = .ok (.irem, 1) ∧ decode (ia_code 288) 32 = .ok (.iload 7, 2) ∧ decode (ia_code 288) 34 = .ok (.iadd, 1) ∧ decode (ia_code 288) 35 = .ok (.aload_n 0, 1) ∧ decode (ia_code 288) 36 = .ok (.getfield 33, 3) ∧ decode (ia_code 288) 39 = .ok (.bipush 100, 2) ∧ decode (ia_code 288) 41 = .ok (.iload 6, 2) ∧ decode (ia_code 288) 43 = .ok (.iadd, 1) ∧ decode (ia_code 288) 44 = .ok (.iaload, 1) ∧ decode (ia_code 288) 45 = .ok (.if_icmp .le 5, 3) ∧ decode (ia_code 288) 48 = .ok (.iconst (-1), 1) ∧ decode (ia_code 288) 49 = .ok (.ireturn, 1) ∧ decode (ia_code 288) 50 = .ok (.iload_n 3, 1) ∧ decode (ia_code 288) 51 = .ok (.iload 7, 2) ∧ decode (ia_code 288) 53 = .ok (.iload 4, 2) ∧ decode (ia_code 288) 55 = .ok (.imul, 1) ∧ decode (ia_code 288) 56 = .ok (.iadd, 1) ∧ decode (ia_code 288) 57 = .ok (.istore_n 3, 1) ∧ decode (ia_code 288) 58 = .ok (.iload 4, 2) ∧ decode (ia_code 288) 60 = .ok (.bipush 6, 2) ∧ decode (ia_code 288) 62 = .ok (.imul, 1) ∧ decode (ia_code 288) 63 = .ok (.istore 4, 2) ∧ decode (ia_code 288) 65 = .ok (.iload 5, 2) ∧ decode (ia_code 288) 67 = .ok (.bipush 6, 2) ∧ decode (ia_code 288) 69 = .ok (.idiv, 1) ∧ decode (ia_code 288) 70 = .ok (.istore 5, 2) ∧ decode (ia_code 288) 72 = .ok (.iinc 6 1, 3) ∧ decode (ia_code 288) 75 = .ok (.goto (-64), 3) ∧ decode (ia_code 288) 78 = .ok (.iload_n 3, 1) ∧ decode (ia_code 288) 79 = .ok (.ireturn, 1) := by
  refine ⟨?_, ?_, ?_, ?_, ?_, ?_, ?_, ?_, ?_, ?_, ?_, ?_, ?_, ?_, ?_, ?_, ?_, ?_, ?_, ?_, ?_, ?_, ?_, ?_, ?_, ?_, ?_, ?_, ?_, ?_, ?_, ?_, ?_, ?_, ?_, ?_, ?_, ?_, ?_, ?_, ?_, ?_, ?_, ?_, ?_, ?_, ?_, ?_, ?_, ?_, ?_⟩ <;> decide +kernel
set_option maxRecDepth 100000 in
theorem hu_m : ia_maxL 288 = 8 ∧ ia_ret 288 = some .int ∧ wk_gf 288 33 184 6 (186 + 3) = true ∧ wk_ar 186 50 301 = true := ⟨by decide +kernel, by decide +kernel, by decide +kernel, by decide +kernel⟩
theorem hu_6 : (Int8.ofInt 6).toInt32 ≠ 0 := by decide
theorem hu_loop (w : cm_W) (us p : Int32) (Q : cm_O → Prop) : ∀ (n j : Nat) (t u r : Int32) (o7 : Option cm_V), n + j = 4 → Q (some (.inl (hu (fun j => w.1 186 (100 + j)) p n j t u r)), w) → cm_X (cm_C 0) 288 11 [some (.inr (.inr (some 184))), some (.inl us), some (.inl p), some (.inl t), some (.inl u), some (.inl r), some (.inl (Int32.ofNat j)), o7] [] w Q := by
  obtain ⟨d0, d1, d2, d3, d5, d6, d8, d9, d11, d13, d14, d17, d18, d19, d21, d22, d23, d24, d25, d27, d29, d31, d32, d34, d35, d36, d39, d41, d43, d44, d45, d48, d49, d50, d51, d53, d55, d56, d57, d58, d60, d62, d63, d65, d67, d69, d70, d72, d75, d78, d79⟩ := hu_d
  obtain ⟨m1, m2, m3, m4⟩ := hu_m
  intro n
  induction n with
  | zero =>
    intro j t u r o7 hj hQ
    have ej : j = 4 := by omega
    subst ej
    refine wk_iload d11 rfl ?_
    refine wk_iconst d13 ?_
    refine wk_icmp d14 (t := 78) rfl (fun _ => ?_) (fun hc => ?_)
    · refine wk_iload_n d78 rfl ?_
      exact wk_ireturn d79 m2 rfl hQ
    · rw [hu_ge4] at hc
      cases hc
  | succ n ih =>
    intro j t u r o7 hj hQ
    have hj4 : j < 4 := by omega
    refine wk_iload d11 rfl ?_
    refine wk_iconst d13 ?_
    refine wk_icmp d14 (t := 78) rfl (fun hc => ?_) (fun _ => ?_)
    · rw [hu_ge j hj4] at hc
      cases hc
    refine wk_iload_n d17 rfl ?_
    refine wk_iconst d18 ?_
    refine wk_iload d19 rfl ?_
    refine wk_imul d21 ?_
    refine wk_ishr d22 ?_
    refine wk_iconst d23 ?_
    refine wk_iand d24 ?_
    refine wk_istore d25 (by rw [m1]; rfl) rfl ?_
    refine wk_iload d27 rfl ?_
    refine wk_bipush d29 ?_
    refine wk_irem d31 hu_6 ?_
    refine wk_iload d32 rfl ?_
    refine wk_iadd d34 ?_
    refine wk_aload_n d35 rfl ?_
    refine wk_getR m3 d36 ?_
    refine wk_bipush d39 ?_
    refine wk_iload d41 rfl ?_
    refine wk_iadd d43 ?_
    have hix := hu_ix j hj4
    refine wk_iaload m4 (by rw [hix]; omega) (by rw [hix]; omega) d44 ?_
    rw [hix, show (100 + (j : Int)).toNat = 100 + j from by omega]
    unfold hu at hQ
    refine wk_icmp d45 (t := 50) rfl (fun hc => ?_) (fun hc => ?_)
    rotate_left
    · have hlt : w.1 186 (100 + j) < (r - r / (Int8.ofInt 6).toInt32 * (Int8.ofInt 6).toInt32) + hu_n p j := by
        have hc' : (!(decide (w.1 186 (100 + j) < (r - r / (Int8.ofInt 6).toInt32 * (Int8.ofInt 6).toInt32) + hu_n p j))) = false := hc
        by_cases z : w.1 186 (100 + j) < (r - r / (Int8.ofInt 6).toInt32 * (Int8.ofInt 6).toInt32) + hu_n p j
        · exact z
        · rw [decide_eq_false z] at hc'; cases hc'
      rw [if_pos hlt] at hQ
      refine wk_iconst d48 ?_
      exact wk_ireturn d49 m2 rfl hQ
    have hge : ¬ w.1 186 (100 + j) < (r - r / (Int8.ofInt 6).toInt32 * (Int8.ofInt 6).toInt32) + hu_n p j := fun z => by
      have hc' : (!(decide (w.1 186 (100 + j) < (r - r / (Int8.ofInt 6).toInt32 * (Int8.ofInt 6).toInt32) + hu_n p j))) = true := hc
      rw [decide_eq_true z] at hc'
      cases hc'
    rw [if_neg hge] at hQ
    refine wk_iload_n d50 rfl ?_
    refine wk_iload d51 rfl ?_
    refine wk_iload d53 rfl ?_
    refine wk_imul d55 ?_
    refine wk_iadd d56 ?_
    refine wk_istore_n d57 (by rw [m1]; rfl) rfl ?_
    refine wk_iload d58 rfl ?_
    refine wk_bipush d60 ?_
    refine wk_imul d62 ?_
    refine wk_istore d63 (by rw [m1]; rfl) rfl ?_
    refine wk_iload d65 rfl ?_
    refine wk_bipush d67 ?_
    refine wk_idiv d69 hu_6 ?_
    refine wk_istore d70 (by rw [m1]; rfl) rfl ?_
    refine wk_iinc d72 (by rw [m1]; rfl) rfl rfl ?_
    refine wk_goto d75 (t := 11) rfl ?_
    rw [hu_inc j hj4]
    exact ih (j + 1) _ _ _ _ (by omega) hQ
/-- usedBy, exactly -/
theorem hu_ok (us p : Int32) (w : cm_W) : cm_C 1 288 [.inr (.inr (some 184)), .inl us, .inl p] w (some (.inl (hu (fun j => w.1 186 (100 + j)) p 4 0 us (Int32.ofInt 1) us)), w) := by
  obtain ⟨d0, d1, d2, d3, d5, d6, d8, d9, d11, d13, d14, d17, d18, d19, d21, d22, d23, d24, d25, d27, d29, d31, d32, d34, d35, d36, d39, d41, d43, d44, d45, d48, d49, d50, d51, d53, d55, d56, d57, d58, d60, d62, d63, d65, d67, d69, d70, d72, d75, d78, d79⟩ := hu_d
  obtain ⟨m1, m2, m3, m4⟩ := hu_m
  have hent : cm_ent 288 [.inr (.inr (some 184)), .inl us, .inl p] = [some (.inr (.inr (some 184))), some (.inl us), some (.inl p), none, none, none, none, none] := by
    unfold cm_ent
    rw [m1]
    rfl
  have h : ∃ o, cm_C (0 + 1) 288 [.inr (.inr (some 184)), .inl us, .inl p] w o ∧ (fun o : cm_O => o = (some (.inl (hu (fun j => w.1 186 (100 + j)) p 4 0 us (Int32.ofInt 1) us)), w)) o := by
    refine wk_entry (by rw [m1]; exact Nat.le_of_ble_eq_true rfl) ?_
    rw [hent]
    refine wk_iload_n d0 rfl ?_
    refine wk_istore_n d1 (by rw [m1]; rfl) rfl ?_
    refine wk_iconst d2 ?_
    refine wk_istore d3 (by rw [m1]; rfl) rfl ?_
    refine wk_iload_n d5 rfl ?_
    refine wk_istore d6 (by rw [m1]; rfl) rfl ?_
    refine wk_iconst d8 ?_
    refine wk_istore d9 (by rw [m1]; rfl) rfl ?_
    exact hu_loop w us p _ 4 0 _ _ _ none rfl rfl
  obtain ⟨o, hC, rfl⟩ := h
  exact hC
/-- its bounds: every digit stays below six -/
theorem hu_n_in (p : Int32) (j : Nat) : 0 ≤ (hu_n p j).toInt ∧ (hu_n p j).toInt ≤ 3 := by
  have e1 : ia_E (Int32.ofInt 3) = 2147483651 := by decide
  have h := sv_and0_ok sv_top (2147483651, 2147483651) (p >>> ((Int32.ofInt 2 * Int32.ofNat j) &&& 31)) (Int32.ofInt 3) (sv_in_top _) ⟨Nat.le_of_eq e1.symm, Nat.le_of_eq e1⟩
  have h1 : 2147483648 ≤ ia_E (hu_n p j) := h.1
  have h2 : ia_E (hu_n p j) ≤ 2147483651 := h.2
  rw [ia_toInt]
  omega

/-! ## by hand: tables of the reference, its rows (wip/p2/gentab5.py) -/
theorem wk_ldcw {C : Nat → List cm_V → cm_W → cm_O → Prop} {y pc i v a b c : Nat} {lv : cm_L} {st : List cm_V} {w : cm_W} {Q : cm_O → Prop} (hp : ia_pl (ia_cls y) i = some (8, v, a, b, c)) (hd : decode (ia_code y) pc = .ok (.ldc_w i, 3)) (k : cm_X C y (pc + 3) lv (.inl (ia_D v) :: st) w Q) : cm_X C y pc lv st w Q := by
  refine cm_X_do (q := (pc + 3, lv, .inl (ia_D v) :: st, w)) hd ?_ k
  show (match ia_pl (ia_cls y) i with
    | some (8, v, _, _, _) => cm_nx (Nat.add pc 3) lv (.inl (ia_D v) :: st) w
    | _ => none) = _
  rw [hp]
  rfl
theorem hu_c6 : ((Int8.ofInt 6).toInt32).toInt = 6 := by decide
theorem hu_one {st : Nat → Int32} {p : Int32} {n j T U q : Nat} (hst : (st j).toInt ≤ 5) (hT : T + 3 * U < 100000) (hU : 6 * U < 100000) (hq : q < 100000) : hu st p (n + 1) j (Int32.ofNat T) (Int32.ofNat U) (Int32.ofNat q) = Int32.ofInt (-1) ∨ ∃ X : Nat, X ≤ 3 ∧ q % 6 + X ≤ 5 ∧ hu st p (n + 1) j (Int32.ofNat T) (Int32.ofNat U) (Int32.ofNat q) = hu st p n (j + 1) (Int32.ofNat (T + X * U)) (Int32.ofNat (6 * U)) (Int32.ofNat (q / 6)) := by
  obtain ⟨x0, x1⟩ := hu_n_in p j
  obtain ⟨X, hX⟩ : ∃ X : Nat, (hu_n p j).toInt = (X : Int) := ⟨(hu_n p j).toInt.toNat, by omega⟩
  have eX : hu_n p j = Int32.ofNat X := hk_of hX (by omega)
  have e1 : Int32.ofNat q / (Int8.ofInt 6).toInt32 = Int32.ofNat (q / 6) := by
    refine hk_of ?_ (by omega)
    rw [Int32.toInt_div_of_ne_right _ _ (by decide), hu_c6, hk_to q hq]
    show ((q : Int)).tdiv 6 = ((q / 6 : Nat) : Int)
    rw [show (6 : Int) = ((6 : Nat) : Int) from rfl, ← Int.ofNat_tdiv]
  have e2 : Int32.ofNat q - Int32.ofNat q / (Int8.ofInt 6).toInt32 * (Int8.ofInt 6).toInt32 = Int32.ofNat (q % 6) := by
    rw [e1]
    refine hk_of ?_ (by omega)
    have e3 : (Int32.ofNat (q / 6) * (Int8.ofInt 6).toInt32).toInt = ((q / 6 * 6 : Nat) : Int) := by
      rw [Int32.toInt_mul, hu_c6, hk_to (q / 6) (by omega)]
      rw [show (((q / 6 : Nat) : Int) * 6) = ((q / 6 * 6 : Nat) : Int) from by omega]
      exact Int.bmod_eq_of_le (by omega) (by omega)
    rw [Int32.toInt_sub, e3, hk_to q hq]
    rw [show ((q : Int) - ((q / 6 * 6 : Nat) : Int)) = ((q % 6 : Nat) : Int) from by omega]
    exact Int.bmod_eq_of_le (by omega) (by omega)
  have e4 : (Int32.ofNat (q % 6) + Int32.ofNat X).toInt = ((q % 6 + X : Nat) : Int) := by
    rw [Int32.toInt_add, hk_to (q % 6) (by omega), hk_to X (by omega)]
    rw [show (((q % 6 : Nat) : Int) + (X : Int)) = ((q % 6 + X : Nat) : Int) from by omega]
    exact Int.bmod_eq_of_le (by omega) (by omega)
  have e5 : Int32.ofNat U * (Int8.ofInt 6).toInt32 = Int32.ofNat (6 * U) := by
    refine hk_of ?_ (by omega)
    rw [Int32.toInt_mul, hu_c6, hk_to U (by omega)]
    rw [show ((U : Int) * 6) = ((6 * U : Nat) : Int) from by omega]
    exact Int.bmod_eq_of_le (by omega) (by omega)
  have hXU : X * U ≤ 3 * U := Nat.mul_le_mul_right _ (by omega)
  have e6 : Int32.ofNat T + Int32.ofNat X * Int32.ofNat U = Int32.ofNat (T + X * U) := by
    refine hk_of ?_ (by omega)
    have e7 : (Int32.ofNat X * Int32.ofNat U).toInt = ((X * U : Nat) : Int) := by
      rw [Int32.toInt_mul, hk_to X (by omega), hk_to U (by omega), ← Int.natCast_mul]
      generalize X * U = z at hXU ⊢
      exact Int.bmod_eq_of_le (by omega) (by omega)
    rw [Int32.toInt_add, e7, hk_to T (by omega)]
    generalize X * U = z at hXU ⊢
    rw [show ((T : Int) + (z : Int)) = ((T + z : Nat) : Int) from by omega]
    exact Int.bmod_eq_of_le (by omega) (by omega)
  have hq1 : hu st p (n + 1) j (Int32.ofNat T) (Int32.ofNat U) (Int32.ofNat q) = if st j < (Int32.ofNat q - Int32.ofNat q / (Int8.ofInt 6).toInt32 * (Int8.ofInt 6).toInt32) + hu_n p j then Int32.ofInt (-1) else hu st p n (j + 1) (Int32.ofNat T + hu_n p j * Int32.ofNat U) (Int32.ofNat U * (Int8.ofInt 6).toInt32) (Int32.ofNat q / (Int8.ofInt 6).toInt32) := rfl
  rw [hq1, e2, eX]
  by_cases hlt : st j < Int32.ofNat (q % 6) + Int32.ofNat X
  · rw [if_pos hlt]
    exact Or.inl rfl
  · rw [if_neg hlt]
    rw [Int32.lt_iff_toInt_lt, e4] at hlt
    exact Or.inr ⟨X, by omega, by omega, by rw [e1, e5, e6]⟩
theorem hu_rng {st : Nat → Int32} {p : Int32} {u : Nat} (hst : ∀ j, j < 4 → (st j).toInt ≤ 5) (hu0 : u < 1296) : hu st p 4 0 (Int32.ofNat u) (Int32.ofInt 1) (Int32.ofNat u) = Int32.ofInt (-1) ∨ ∃ v, v < 1296 ∧ hu st p 4 0 (Int32.ofNat u) (Int32.ofInt 1) (Int32.ofNat u) = Int32.ofNat v := by
  have e1 : Int32.ofInt 1 = Int32.ofNat 1 := by decide
  rw [e1]
  rcases hu_one (st := st) (p := p) (n := 3) (j := 0) (T := u) (U := 1) (q := u) (hst 0 (by decide)) (by omega) (by omega) (by omega) with h | ⟨X0, a0, b0, h0⟩
  · exact Or.inl h
  rcases hu_one (st := st) (p := p) (n := 2) (j := 0 + 1) (T := u + X0 * 1) (U := 6 * 1) (q := u / 6) (hst 1 (by decide)) (by omega) (by omega) (by omega) with h | ⟨X1, a1, b1, h1⟩
  · exact Or.inl (h0.trans h)
  rcases hu_one (st := st) (p := p) (n := 1) (j := 0 + 1 + 1) (T := u + X0 * 1 + X1 * (6 * 1)) (U := 6 * (6 * 1)) (q := u / 6 / 6) (hst 2 (by decide)) (by omega) (by omega) (by omega) with h | ⟨X2, a2, b2, h2⟩
  · exact Or.inl ((h0.trans h1).trans h)
  rcases hu_one (st := st) (p := p) (n := 0) (j := 0 + 1 + 1 + 1) (T := u + X0 * 1 + X1 * (6 * 1) + X2 * (6 * (6 * 1))) (U := 6 * (6 * (6 * 1))) (q := u / 6 / 6 / 6) (hst 3 (by decide)) (by omega) (by omega) (by omega) with h | ⟨X3, a3, b3, h3⟩
  · exact Or.inl (((h0.trans h1).trans h2).trans h)
  exact Or.inr ⟨_, by omega, ((h0.trans h1).trans h2).trans h3⟩
/-- the portions of a plate below 256 -/
theorem hp_all : (List.range 256).all (fun p => decide (0 ≤ (hp (Int32.ofNat p)).toInt ∧ (hp (Int32.ofNat p)).toInt ≤ 12)) = true := by decide +kernel
theorem hp_in {p : Nat} (h : p < 256) : 0 ≤ (hp (Int32.ofNat p)).toInt ∧ (hp (Int32.ofNat p)).toInt ≤ 12 := of_decide_eq_true (List.all_eq_true.mp hp_all p (List.mem_range.mpr h))
set_option maxRecDepth 100000 in
theorem ht_far : ia_pl (ia_cls 284) 331 = some (8, 2148483648, 0, 0, 1879) := by decide +kernel
theorem ht_farI : (ia_D 2148483648).toInt = 1000000 := by decide
set_option maxRecDepth 100000 in
theorem ht_r3 : (Nat.beq 0 1 || cm_rcv 288 [.inr (.inr (some 184)), .inl 0, .inl 0]) = true := by decide +kernel
/-- a row's first filling -/
theorem ht_l2 (s d : Int32) (m : Nat) (hm : m < 6) (ws : cm_W) (o5 o6 : Option cm_V) (Q : cm_O → Prop) (hk : ∀ w', hE ws w' → (∀ m' u, u < 1296 → m' ≠ m → hf w' m' u = hf ws m' u) → (∀ u, u < 1296 → hf w' m u = if hbt s (Int32.ofNat m) = true then ia_D 2148483648 else hf ws (m + 1) u) → cm_X (cm_C 3) 284 105 [some (.inr (.inr (some 184))), some (.inl s), some (.inl d), some (.inl (Int32.ofNat m)), some (.inl (Int32.ofNat 1296)), o5, o6] [] w' Q) : ∀ (n j : Nat) (w1 : cm_W), n + j = 1296 → hE ws w1 → (∀ m' u, u < 1296 → m' ≠ m → hf w1 m' u = hf ws m' u) → (∀ u, u < j → hf w1 m u = if hbt s (Int32.ofNat m) = true then ia_D 2148483648 else hf ws (m + 1) u) → cm_X (cm_C 3) 284 49 [some (.inr (.inr (some 184))), some (.inl s), some (.inl d), some (.inl (Int32.ofNat m)), some (.inl (Int32.ofNat j)), o5, o6] [] w1 Q := by
  obtain ⟨d0, d1, d2, d3, d6, d9, d10, d13, d16, d17, d20, d21, d22, d23, d24, d25, d26, d27, d30, d33, d34, d37, d38, d39, d40, d41, d42, d43, d46, d47, d49, d51, d54, d57, d58, d61, d64, d65, d66, d68, d69, d70, d71, d74, d77, d80, d83, d84, d87, d90, d91, d92, d93, d94, d96, d97, d98, d99, d102, d105, d106, d108, d110, d113, d116, d117, d118, d121, d124, d125, d126, d128, d129, d132, d135, d138, d139, d141, d143, d146, d149, d150, d152, d154, d157, d159, d161, d164, d165, d168, d171, d172, d173, d175, d176, d177, d180, d183, d184, d185, d187, d188, d189, d191, d194, d195, d198, d201, d202, d203, d204, d205, d207, d208, d209, d210, d213, d214, d217, d220, d223, d226, d229, d232⟩ := ht_d
  obtain ⟨m1, m2, gf, gs, af, as_, b1, b2, b3, i1, i2, i3, u1, u2, u3, p1, p2, p3, l1, l2, l3⟩ := ht_m
  intro n
  induction n with
  | zero =>
    intro j w1 hj hE1 hne h0
    have ej : j = 1296 := by omega
    subst ej
    refine wk_iload d49 rfl ?_
    refine wk_sipush d51 ?_
    refine wk_icmp d54 (t := 105) rfl (fun _ => hk w1 hE1 hne h0) (fun hc => ?_)
    have := (hk_ge (by omega) hk_c1296 hc).2 rfl
    omega
  | succ n ih =>
    intro j w1 hj hE1 hne h0
    have hix := hk_ix (m := m) (u := j) (by omega) (by omega)
    have hix2 := hk_ix (m := m + 1) (u := j) (by omega) (by omega)
    refine wk_iload d49 rfl ?_
    refine wk_sipush d51 ?_
    refine wk_icmp d54 (t := 105) rfl (fun hc => ?_) (fun _ => ?_)
    · have := (hk_ge (by omega) hk_c1296 hc).1 rfl
      omega
    have tail : ∀ x, (x = if hbt s (Int32.ofNat m) = true then ia_D 2148483648 else hf ws (m + 1) j) → cm_X (cm_C 3) 284 98 [some (.inr (.inr (some 184))), some (.inl s), some (.inl d), some (.inl (Int32.ofNat m)), some (.inl (Int32.ofNat j)), o5, o6] [.inl x, .inl ((Int16.ofInt 1296).toInt32 * Int32.ofNat m + Int32.ofNat j), .inr (.inr (some 193))] w1 Q := fun x hx => by
      refine wk_iastore af (by rw [hix]; omega) (by rw [hix]; omega) d98 ?_
      rw [hix, show ((1296 * m + j : Nat) : Int).toNat = 1296 * m + j from by omega]
      refine wk_iinc d99 (by rw [m1]; rfl) rfl rfl ?_
      refine wk_goto d102 (t := 49) rfl ?_
      rw [hk_inc j (by omega)]
      refine ih (j + 1) _ (by omega) (hE_u1 hE1) (fun m' u hu hm' => ?_) (fun u hu => ?_)
      · rw [hf_u1 (by omega) hu, if_neg (fun z => hm' z.1)]
        exact hne m' u hu hm'
      · rw [hf_u1 (by omega) (by omega)]
        by_cases hz : m = m ∧ u = j
        · rw [if_pos hz, hx, hz.2]
        · rw [if_neg hz]
          exact h0 u (by omega)
    refine wk_aload_n d57 rfl ?_
    refine wk_getR gf d58 ?_
    refine wk_sipush d61 ?_
    refine wk_iload_n d64 rfl ?_
    refine wk_imul d65 ?_
    refine wk_iload d66 rfl ?_
    refine wk_iadd d68 ?_
    refine wk_iload_n d69 rfl ?_
    refine wk_iload_n d70 rfl ?_
    refine wk_call (kd := 1) (i := 207) d71 rfl (wk_cal (as := [.inl s, .inl (Int32.ofNat m)]) (t := [.inl ((Int16.ofInt 1296).toInt32 * Int32.ofNat m + Int32.ofNat j), .inr (.inr (some 193))]) b1 rfl b2 b3 rfl rfl rfl rfl) (cm_C_mono (by decide) (hbt_ok s (Int32.ofNat m) w1)) ?_
    refine wk_if d74 (t := 83) rfl (fun hc => ?_) (fun hc => ?_)
    · have hb := (hbI_0 hc).1 rfl
      refine wk_aload_n d83 rfl ?_
      refine wk_getR gf d84 ?_
      refine wk_sipush d87 ?_
      refine wk_iload_n d90 rfl ?_
      refine wk_iconst d91 ?_
      refine wk_iadd d92 ?_
      refine wk_imul d93 ?_
      refine wk_iload d94 rfl ?_
      refine wk_iadd d96 ?_
      rw [hk_inc m (by omega)]
      refine wk_iaload af (by rw [hix2]; omega) (by rw [hix2]; omega) d97 ?_
      rw [hix2, show ((1296 * (m + 1) + j : Nat) : Int).toNat = 1296 * (m + 1) + j from by omega]
      refine tail _ ?_
      rw [hb]
      exact hne (m + 1) j (by omega) (by omega)
    · have hb := (hbI_0 hc).2 rfl
      refine wk_ldcw ht_far d77 ?_
      refine wk_goto d80 (t := 98) rfl ?_
      refine tail _ ?_
      rw [hb]
      rfl
/-- what a row of the set holds while it is filled -/
def hCell (w0 : cm_W) (d : Int32) (w : cm_W) (m u : Nat) : Prop := 0 ≤ (hf w m u).toInt ∧ (hf w m u).toInt ≤ 1000000 ∧ ((hf w m u).toInt = 1000000 ∨ ∃ p v, p < 256 ∧ v < 1296 ∧ hfr w0 (Int32.ofNat m) (Int32.ofNat p) d = true ∧ hu (fun j => w0.1 186 (100 + j)) (Int32.ofNat p) 4 0 (Int32.ofNat u) (Int32.ofInt 1) (Int32.ofNat u) = Int32.ofNat v ∧ (hf w m u).toInt = (hp (Int32.ofNat p)).toInt + (hf w (m + 1) v).toInt)
/-- no plate below p makes it less -/
def hMin (w0 : cm_W) (d : Int32) (w : cm_W) (m p u : Nat) : Prop := ∀ p' v, p' < p → v < 1296 → hfr w0 (Int32.ofNat m) (Int32.ofNat p') d = true → hu (fun j => w0.1 186 (100 + j)) (Int32.ofNat p') 4 0 (Int32.ofNat u) (Int32.ofInt 1) (Int32.ofNat u) = Int32.ofNat v → (hf w m u).toInt ≤ (hp (Int32.ofNat p')).toInt + (hf w (m + 1) v).toInt
theorem hk_inj {a b : Nat} (ha : a < 100000) (hb : b < 100000) (h : Int32.ofNat a = Int32.ofNat b) : a = b := by
  have := congrArg Int32.toInt h
  rw [hk_to a ha, hk_to b hb] at this
  omega
theorem hk_n1 {a : Nat} (ha : a < 100000) : Int32.ofInt (-1) ≠ Int32.ofNat a := fun h => by
  have := congrArg Int32.toInt h
  rw [hk_to a ha] at this
  have e : (Int32.ofInt (-1)).toInt = -1 := by decide
  omega
theorem ht_neg : cm_cmp .lt (Int32.ofInt (-1)) 0 = true := by decide
theorem ht_nn (v : Nat) (h : v < 100000) : cm_cmp .lt (Int32.ofNat v) 0 = false := by
  show decide (Int32.ofNat v < 0) = false
  apply decide_eq_false
  rw [Int32.lt_iff_toInt_lt, hk_to v h]
  have e0 : (0 : Int32).toInt = 0 := by decide
  omega
/-- a plate that fits, tried at every store -/
theorem ht_l3 (w0 : cm_W) (s d : Int32) (m p : Nat) (hm : m < 6) (hp0 : p < 256) (hst : ∀ j, j < 4 → (w0.1 186 (100 + j)).toInt ≤ 5) (hfit : hfr w0 (Int32.ofNat m) (Int32.ofNat p) d = true) (ws : cm_W) (hEs : hE w0 ws) (hnx : ∀ u, u < 1296 → 0 ≤ (hf ws (m + 1) u).toInt ∧ (hf ws (m + 1) u).toInt ≤ 1000000) (Q : cm_O → Prop) (hk : ∀ w' o6, hE w0 w' → (∀ m' u, u < 1296 → m' ≠ m → hf w' m' u = hf ws m' u) → (∀ u, u < 1296 → hCell w0 d w' m u) → (∀ u, u < 1296 → hMin w0 d w' m (p + 1) u) → cm_X (cm_C 3) 284 220 [some (.inr (.inr (some 184))), some (.inl s), some (.inl d), some (.inl (Int32.ofNat m)), some (.inl (Int32.ofNat p)), some (.inl (Int32.ofNat 1296)), o6] [] w' Q) : ∀ (n j : Nat) (o6 : Option cm_V) (w1 : cm_W), n + j = 1296 → hE w0 w1 → (∀ m' u, u < 1296 → m' ≠ m → hf w1 m' u = hf ws m' u) → (∀ u, u < 1296 → hCell w0 d w1 m u) → (∀ u, u < 1296 → hMin w0 d w1 m p u) → (∀ u, u < j → hMin w0 d w1 m (p + 1) u) → cm_X (cm_C 3) 284 141 [some (.inr (.inr (some 184))), some (.inl s), some (.inl d), some (.inl (Int32.ofNat m)), some (.inl (Int32.ofNat p)), some (.inl (Int32.ofNat j)), o6] [] w1 Q := by
  obtain ⟨d0, d1, d2, d3, d6, d9, d10, d13, d16, d17, d20, d21, d22, d23, d24, d25, d26, d27, d30, d33, d34, d37, d38, d39, d40, d41, d42, d43, d46, d47, d49, d51, d54, d57, d58, d61, d64, d65, d66, d68, d69, d70, d71, d74, d77, d80, d83, d84, d87, d90, d91, d92, d93, d94, d96, d97, d98, d99, d102, d105, d106, d108, d110, d113, d116, d117, d118, d121, d124, d125, d126, d128, d129, d132, d135, d138, d139, d141, d143, d146, d149, d150, d152, d154, d157, d159, d161, d164, d165, d168, d171, d172, d173, d175, d176, d177, d180, d183, d184, d185, d187, d188, d189, d191, d194, d195, d198, d201, d202, d203, d204, d205, d207, d208, d209, d210, d213, d214, d217, d220, d223, d226, d229, d232⟩ := ht_d
  obtain ⟨m1, m2, gf, gs, af, as_, b1, b2, b3, i1, i2, i3, u1, u2, u3, p1, p2, p3, l1, l2, l3⟩ := ht_m
  intro n
  induction n with
  | zero =>
    intro j o6 w1 hj hE1 hne hc0 hn0 hn1
    have ej : j = 1296 := by omega
    subst ej
    refine wk_iload d141 rfl ?_
    refine wk_sipush d143 ?_
    refine wk_icmp d146 (t := 220) rfl (fun _ => hk w1 o6 hE1 hne hc0 hn1) (fun hc => ?_)
    have := (hk_ge (by omega) hk_c1296 hc).2 rfl
    omega
  | succ n ih =>
    intro j o6 w1 hj hE1 hne hc0 hn0 hn1
    have hix := hk_ix (m := m) (u := j) (by omega) (by omega)
    have hst1 : (fun j => w1.1 186 (100 + j)) = (fun j => w0.1 186 (100 + j)) := funext (fun j => hE1.1 186 (100 + j) (by decide))
    have hcall := hu_ok (Int32.ofNat j) (Int32.ofNat p) w1
    rw [hst1] at hcall
    have next : ∀ (x : Int32) (w2 : cm_W), hE w0 w2 → (∀ m' u, u < 1296 → m' ≠ m → hf w2 m' u = hf ws m' u) → (∀ u, u < 1296 → hCell w0 d w2 m u) → (∀ u, u < 1296 → hMin w0 d w2 m p u) → (∀ u, u < j + 1 → hMin w0 d w2 m (p + 1) u) → cm_X (cm_C 3) 284 214 [some (.inr (.inr (some 184))), some (.inl s), some (.inl d), some (.inl (Int32.ofNat m)), some (.inl (Int32.ofNat p)), some (.inl (Int32.ofNat j)), some (.inl x)] [] w2 Q := fun x w2 a1 a2 a3 a4 a5 => by
      refine wk_iinc d214 (by rw [m1]; rfl) rfl rfl ?_
      refine wk_goto d217 (t := 141) rfl ?_
      rw [hk_inc j (by omega)]
      exact ih (j + 1) _ w2 (by omega) a1 a2 a3 a4 a5
    refine wk_iload d141 rfl ?_
    refine wk_sipush d143 ?_
    refine wk_icmp d146 (t := 220) rfl (fun hc => ?_) (fun _ => ?_)
    · have := (hk_ge (by omega) hk_c1296 hc).1 rfl
      omega
    refine wk_aload_n d149 rfl ?_
    refine wk_iload d150 rfl ?_
    refine wk_iload d152 rfl ?_
    refine wk_call (kd := 0) (i := 335) d154 rfl (wk_cal (as := [.inr (.inr (some 184)), .inl (Int32.ofNat j), .inl (Int32.ofNat p)]) (t := []) u1 rfl u2 u3 rfl rfl ht_r3 rfl) (cm_C_mono (by decide) hcall) ?_
    refine wk_istore d157 (by rw [m1]; rfl) rfl ?_
    refine wk_iload d159 rfl ?_
    rcases hu_rng (p := Int32.ofNat p) (u := j) hst (by omega) with hx | ⟨v, hv, hx⟩
    · rw [hx]
      refine wk_if d161 (t := 214) rfl (fun _ => next _ w1 hE1 hne hc0 hn0 (fun u hu0 => ?_)) (fun hc => ?_)
      · by_cases e : u = j
        · intro p' v b1' b2' b3' b4'
          by_cases ep : p' = p
          · rw [ep, e, hx] at b4'
            exact absurd b4' (hk_n1 (by omega))
          · exact hn0 u (by omega) p' v (by omega) b2' b3' b4'
        · exact hn1 u (by omega)
      rw [ht_neg] at hc
      cases hc
    · rw [hx]
      refine wk_if d161 (t := 214) rfl (fun hc => ?_) (fun _ => ?_)
      · rw [ht_nn v (by omega)] at hc
        cases hc
      have hix2 := hk_ix (m := m + 1) (u := v) (by omega) hv
      refine wk_aload_n d164 rfl ?_
      refine wk_getR gf d165 ?_
      refine wk_sipush d168 ?_
      refine wk_iload_n d171 rfl ?_
      refine wk_imul d172 ?_
      refine wk_iload d173 rfl ?_
      refine wk_iadd d175 ?_
      refine wk_aload_n d176 rfl ?_
      refine wk_getR gf d177 ?_
      refine wk_sipush d180 ?_
      refine wk_iload_n d183 rfl ?_
      refine wk_imul d184 ?_
      refine wk_iload d185 rfl ?_
      refine wk_iadd d187 ?_
      refine wk_iaload af (by rw [hix]; omega) (by rw [hix]; omega) d188 ?_
      rw [hix, show ((1296 * m + j : Nat) : Int).toNat = 1296 * m + j from by omega]
      refine wk_iload d189 rfl ?_
      refine wk_call (kd := 1) (i := 322) d191 rfl (wk_cal (as := [.inl (Int32.ofNat p)]) (t := [.inl (w1.1 193 (1296 * m + j)), .inl ((Int16.ofInt 1296).toInt32 * Int32.ofNat m + Int32.ofNat j), .inr (.inr (some 193))]) p1 rfl p2 p3 rfl rfl rfl rfl) (cm_C_mono (by decide) (hp_ok (Int32.ofNat p) w1)) ?_
      refine wk_aload_n d194 rfl ?_
      refine wk_getR gf d195 ?_
      refine wk_sipush d198 ?_
      refine wk_iload_n d201 rfl ?_
      refine wk_iconst d202 ?_
      refine wk_iadd d203 ?_
      refine wk_imul d204 ?_
      refine wk_iload d205 rfl ?_
      refine wk_iadd d207 ?_
      rw [hk_inc m (by omega)]
      refine wk_iaload af (by rw [hix2]; omega) (by rw [hix2]; omega) d208 ?_
      rw [hix2, show ((1296 * (m + 1) + v : Nat) : Int).toNat = 1296 * (m + 1) + v from by omega]
      refine wk_iadd d209 ?_
      refine wk_call (kd := 1) (i := 297) d210 rfl (wk_cal (as := [.inl (w1.1 193 (1296 * m + j)), .inl (hp (Int32.ofNat p) + w1.1 193 (1296 * (m + 1) + v))]) (t := [.inl ((Int16.ofInt 1296).toInt32 * Int32.ofNat m + Int32.ofNat j), .inr (.inr (some 193))]) l1 rfl l2 l3 rfl rfl rfl rfl) (cm_C_mono (by decide) (hle_ok (w1.1 193 (1296 * m + j)) (hp (Int32.ofNat p) + w1.1 193 (1296 * (m + 1) + v)) w1)) ?_
      refine wk_iastore af (by rw [hix]; omega) (by rw [hix]; omega) d213 ?_
      rw [hix, show ((1296 * m + j : Nat) : Int).toNat = 1296 * m + j from by omega]
      obtain ⟨q1, q2⟩ := hp_in hp0
      have hnv : hf w1 (m + 1) v = hf ws (m + 1) v := hne (m + 1) v hv (by omega)
      obtain ⟨n1, n2⟩ := hnx v hv
      have hsum : (hp (Int32.ofNat p) + w1.1 193 (1296 * (m + 1) + v)).toInt = (hp (Int32.ofNat p)).toInt + (hf w1 (m + 1) v).toInt := by
        rw [Int32.toInt_add]
        show ((hp (Int32.ofNat p)).toInt + (hf w1 (m + 1) v).toInt).bmod _ = _
        rw [hnv]
        exact Int.bmod_eq_of_le (by omega) (by omega)
      obtain ⟨w2, hw2⟩ : ∃ w2, w2 = (cm_u1 w1 193 (1296 * m + j) (if w1.1 193 (1296 * m + j) < hp (Int32.ofNat p) + w1.1 193 (1296 * (m + 1) + v) then w1.1 193 (1296 * m + j) else hp (Int32.ofNat p) + w1.1 193 (1296 * (m + 1) + v))) := ⟨_, rfl⟩
      rw [← hw2]
      have e1 : ∀ v', v' < 1296 → hf w2 (m + 1) v' = hf w1 (m + 1) v' := fun v' hv' => by
        rw [hw2, hf_u1 (by omega) hv', if_neg (by omega)]
      have hother : ∀ u, u < 1296 → u ≠ j → hf w2 m u = hf w1 m u := fun u hu hne' => by
        rw [hw2, hf_u1 (by omega) hu, if_neg (fun z => hne' z.2)]
      have hless : (hf w2 m j).toInt ≤ (hf w1 m j).toInt ∧ (hf w2 m j).toInt ≤ (hp (Int32.ofNat p)).toInt + (hf w1 (m + 1) v).toInt := by
        rw [hw2, hf_u1 (by omega) (by omega), if_pos ⟨rfl, rfl⟩, ← hsum]
        by_cases hlt : w1.1 193 (1296 * m + j) < hp (Int32.ofNat p) + w1.1 193 (1296 * (m + 1) + v)
        · rw [if_pos hlt]
          rw [Int32.lt_iff_toInt_lt] at hlt
          exact ⟨Int.le_refl _, Int.le_of_lt hlt⟩
        · rw [if_neg hlt]
          rw [Int32.lt_iff_toInt_lt] at hlt
          exact ⟨Int.not_lt.mp hlt, Int.le_refl _⟩
      have hmin0 : ∀ u, u < 1296 → hMin w0 d w2 m p u := fun u hu0 p' v' c1 c2 c3 c4 => by
        rw [e1 v' c2]
        have := hn0 u hu0 p' v' c1 c2 c3 c4
        by_cases e : u = j
        · rw [e] at this ⊢
          exact Int.le_trans hless.1 this
        · rw [hother u hu0 e]
          exact this
      refine next _ w2 (by rw [hw2]; exact hE_u1 hE1) (fun m' u hu hm' => ?_) (fun u hu => ?_) hmin0 (fun u hu0 p' v' c1 c2 c3 c4 => ?_)
      rotate_right
      · by_cases ep : p' = p
        · by_cases e : u = j
          · rw [ep, e, hx] at c4
            have ev := hk_inj (by omega) (by omega) c4
            rw [← ev, ep, e, e1 v hv]
            exact hless.2
          · rw [hother u (by omega) e, e1 v' c2]
            exact hn1 u (by omega) p' v' c1 c2 c3 c4
        · exact hmin0 u (by omega) p' v' (by omega) c2 c3 c4
      · rw [hw2, hf_u1 (by omega) hu, if_neg (fun z => hm' z.1)]
        exact hne m' u hu hm'
      · have oldc := hc0 u hu
        have keep : hf w2 m u = hf w1 m u → hCell w0 d w2 m u := fun e => by
          unfold hCell at oldc ⊢
          rw [e]
          refine ⟨oldc.1, oldc.2.1, oldc.2.2.imp id ?_⟩
          rintro ⟨p', v', c1, c2, c3, c4, c5⟩
          exact ⟨p', v', c1, c2, c3, c4, by rw [e1 v' c2]; exact c5⟩
        by_cases hz : m = m ∧ u = j
        · by_cases hlt : w1.1 193 (1296 * m + j) < hp (Int32.ofNat p) + w1.1 193 (1296 * (m + 1) + v)
          · refine keep ?_
            rw [hw2, hf_u1 (by omega) (by omega), if_pos hz, if_pos hlt, hz.2]
            rfl
          · have e2 : hf w2 m u = hp (Int32.ofNat p) + w1.1 193 (1296 * (m + 1) + v) := by
              rw [hw2, hf_u1 (by omega) (by omega), if_pos hz, if_neg hlt]
            unfold hCell at oldc ⊢
            rw [e2, hsum]
            rw [Int32.lt_iff_toInt_lt, hsum] at hlt
            have o2 := oldc.2.1
            rw [hz.2] at o2
            have o2' : (w1.1 193 (1296 * m + j)).toInt ≤ 1000000 := o2
            rw [hnv] at hlt ⊢
            refine ⟨by omega, by omega, Or.inr ⟨p, v, hp0, hv, hfit, by rw [hz.2]; exact hx, ?_⟩⟩
            rw [e1 v hv, hnv]
        · refine keep ?_
          rw [hw2, hf_u1 (by omega) (by omega), if_neg hz]

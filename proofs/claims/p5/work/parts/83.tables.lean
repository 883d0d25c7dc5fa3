/-! ## by hand: tables of the reference (wip/p2/gentab4.py) -/
theorem hk_to (j : Nat) (h : j < 100000) : (Int32.ofNat j).toInt = (j : Int) := Int32.toInt_ofNat_of_lt (by omega)
theorem hk_of {x : Int32} {j : Nat} (h : x.toInt = (j : Int)) (hj : j < 100000) : x = Int32.ofNat j := by
  apply Int32.toInt_inj.mp
  rw [h, hk_to j hj]
theorem hk_inc (j : Nat) (h : j < 99999) : Int32.ofNat j + Int32.ofInt 1 = Int32.ofNat (j + 1) := by
  refine hk_of ?_ (by omega)
  have e1 : (Int32.ofInt 1).toInt = 1 := by decide
  rw [Int32.toInt_add, e1, hk_to j (by omega)]
  rw [show ((j : Int) + 1) = ((j + 1 : Nat) : Int) from by omega]
  exact Int.bmod_eq_of_le (by omega) (by omega)
theorem hk_ge {j n : Nat} {c : Int32} (hj : j < 100000) (hc : c.toInt = (n : Int)) {b : Bool} (h : cm_cmp .ge (Int32.ofNat j) c = b) : (b = true → n ≤ j) ∧ (b = false → j < n) := by
  have h2 : (!(decide (Int32.ofNat j < c))) = b := h
  obtain ⟨a1, a2⟩ := wk_ltn h2
  refine ⟨fun e => ?_, fun e => ?_⟩
  · have := a1 e
    rw [Int32.lt_iff_toInt_lt, hk_to j hj, hc] at this
    omega
  · have := a2 e
    rw [Int32.lt_iff_toInt_lt, hk_to j hj, hc] at this
    omega
theorem hk_c1296 : ((Int16.ofInt 1296).toInt32).toInt = ((1296 : Nat) : Int) := by decide
theorem hk_c256 : ((Int16.ofInt 256).toInt32).toInt = ((256 : Nat) : Int) := by decide
theorem hk_ix {m u : Nat} (hm : m ≤ 6) (hu : u < 1296) : ((Int16.ofInt 1296).toInt32 * Int32.ofNat m + Int32.ofNat u).toInt = ((1296 * m + u : Nat) : Int) := by
  have e1 : ((Int16.ofInt 1296).toInt32 * Int32.ofNat m).toInt = 1296 * (m : Int) := by
    rw [Int32.toInt_mul, hk_c1296, hk_to m (by omega)]
    exact Int.bmod_eq_of_le (by omega) (by omega)
  rw [Int32.toInt_add, e1, hk_to u (by omega)]
  rw [show (1296 * (m : Int) + (u : Int)) = ((1296 * m + u : Nat) : Int) from by omega]
  exact Int.bmod_eq_of_le (by omega) (by omega)
/-- the table's row m, place u -/
def hf (w : cm_W) (m u : Nat) : Int32 := w.1 193 (1296 * m + u)
/-- nothing but the table changes -/
def hE (w w' : cm_W) : Prop := (∀ k j, k ≠ 193 → w'.1 k j = w.1 k j) ∧ (∀ k j, w'.2 k j = w.2 k j)
theorem hE_refl (w : cm_W) : hE w w := ⟨fun _ _ _ => rfl, fun _ _ => rfl⟩
theorem hE_u1 {w w' : cm_W} {i : Nat} {x : Int32} (h : hE w w') : hE w (cm_u1 w' 193 i x) := ⟨fun k j hk => by
  rw [hs_u1_ne (fun z => hk z.1)]
  exact h.1 k j hk, fun k j => h.2 k j⟩
theorem hf_u1 {w : cm_W} {m u m' u' : Nat} {x : Int32} (hu : u < 1296) (hu' : u' < 1296) : hf (cm_u1 w 193 (1296 * m + u) x) m' u' = if m' = m ∧ u' = u then x else hf w m' u' := by
  unfold hf
  show (if 193 = 193 ∧ 1296 * m' + u' = 1296 * m + u then x else w.1 193 (1296 * m' + u')) = _
  by_cases h : m' = m ∧ u' = u
  · rw [if_pos h, if_pos ⟨rfl, by rw [h.1, h.2]⟩]
  · rw [if_neg h, if_neg (fun z => h (by have := z.2; omega))]
set_option maxRecDepth 100000 in
theorem ht_d : decode (ia_code 284) 0 = .ok (.iconst 0, 1) ∧ decode (ia_code 284) 1 = .ok (.istore_n 3, 1) ∧ decode (ia_code 284) 2 = .ok (.iload_n 3, 1) ∧ decode (ia_code 284) 3 = .ok (.sipush 1296, 3) ∧ decode (ia_code 284) 6 = .ok (.if_icmp .ge 27, 3) ∧ decode (ia_code 284) 9 = .ok (.aload_n 0, 1) ∧ decode (ia_code 284) 10 = .ok (.getfield 56, 3) ∧ decode (ia_code 284) 13 = .ok (.sipush 1296, 3) ∧ decode (ia_code 284) 16 = .ok (.aload_n 0, 1) ∧ decode (ia_code 284) 17 = .ok (.getfield 33, 3) ∧ decode (ia_code 284) 20 = .ok (.iconst 0, 1) ∧ decode (ia_code 284) 21 = .ok (.iaload, 1) ∧ decode (ia_code 284) 22 = .ok (.imul, 1) ∧ decode (ia_code 284) 23 = .ok (.iload_n 3, 1) ∧ decode (ia_code 284) 24 = .ok (.iadd, 1) ∧ decode (ia_code 284) 25 = .ok (.iconst 0, 1) ∧ decode (ia_code 284) 26 = .ok (.iastore, 1) ∧ decode (ia_code 284) 27 = .ok (.iinc 3 1, 3) ∧ decode (ia_code 284) 30 = .ok (.goto (-28), 3) ∧ decode (ia_code 284) 33 = .ok (.aload_n 0, 1) ∧ decode (ia_code 284) 34 = .ok (.getfield 33, 3) ∧ decode (ia_code 284) 37 = .ok (.iconst 0, 1) ∧ decode (ia_code 284) 38 = .ok (.iaload, 1) ∧ decode (ia_code 284) 39 = .ok (.iconst 1, 1) ∧ decode (ia_code 284) 40 = .ok (.isub, 1) ∧ decode (ia_code 284) 41 = .ok (.istore_n 3, 1) ∧ decode (ia_code 284) 42 = .ok (.iload_n 3, 1) ∧ decode (ia_code 284) 43 = .ok (.ifCond .lt 189, 3) ∧ decode (ia_code 284) 46 = .ok (.iconst 0, 1) ∧ decode (ia_code 284) 47 = .ok (.istore 4, 2) ∧ decode (ia_code 284) 49 = .ok (.iload 4, 2) ∧ decode (ia_code 284) 51 = .ok (.sipush 1296, 3) ∧ decode (ia_code 284) 54 = .ok (.if_icmp .ge 51, 3) ∧ decode (ia_code 284) 57 = .ok (.aload_n 0, 1) ∧ decode (ia_code 284) 58 = .ok (.getfield 56, 3) ∧ decode (ia_code 284) 61 = .ok (.sipush 1296, 3) ∧ decode (ia_code 284) 64 = .ok (.iload_n 3, 1) ∧ decode (ia_code 284) 65 = .ok (.imul, 1) ∧ decode (ia_code 284) 66 = .ok (.iload 4, 2) ∧ decode (ia_code 284) 68 = .ok (.iadd, 1) ∧ decode (ia_code 284) 69 = .ok (.iload_n 1, 1) ∧ decode (ia_code 284) 70 = .ok (.iload_n 3, 1) ∧ decode (ia_code 284) 71 = .ok (.invokestatic 207, 3) ∧ decode (ia_code 284) 74 = .ok (.ifCond .eq 9, 3) ∧ decode (ia_code 284) 77 = .ok (.ldc_w 331, 3) ∧ decode (ia_code 284) 80 = .ok (.goto 18, 3) ∧ decode (ia_code 284) 83 = .ok (.aload_n 0, 1) ∧ decode (ia_code 284) 84 = .ok (.getfield 56, 3) ∧ decode (ia_code 284) 87 = .ok (.sipush 1296, 3) ∧ decode (ia_code 284) 90 = .ok (.iload_n 3, 1) ∧ decode (ia_code 284) 91 = .ok (.iconst 1, 1) ∧ decode (ia_code 284) 92 = .ok (.iadd, 1) ∧ decode (ia_code 284) 93 = .ok (.imul, 1) ∧ decode (ia_code 284) 94 = .ok (.iload 4, 2) ∧ decode (ia_code 284) 96 = .ok (.iadd, 1) ∧ decode (ia_code 284) 97 = .ok (.iaload, 1) ∧ decode (ia_code 284) 98 = .ok (.iastore, 1) ∧ decode (ia_code 284) 99 = .ok (.iinc 4 1, 3) ∧ decode (ia_code 284) 102 = .ok (.goto (-53), 3) ∧ decode (ia_code 284) 105 = .ok (.iconst 0, 1) ∧ decode (ia_code 284) 106 = .ok (.istore 4, 2) ∧ decode (ia_code 284) 108 = .ok (.iload 4, 2) ∧ decode (ia_code 284) 110 = .ok (.sipush 256, 3) ∧ decode (ia_code 284) 113 = .ok (.if_icmp .ge 113, 3) ∧ decode (ia_code 284) 116 = .ok (.iload_n 1, 1) ∧ decode (ia_code 284) 117 = .ok (.iload_n 3, 1) ∧ decode (ia_code 284) 118 = .ok (.invokestatic 207, 3) ∧ decode (ia_code 284) 121 = .ok (.ifCond .eq 105, 3) ∧ decode (ia_code 284) 124 = .ok (.aload_n 0, 1) ∧ decode (ia_code 284) 125 = .ok (.iload_n 3, 1) ∧ decode (ia_code 284) 126 = .ok (.iload 4, 2) ∧ decode (ia_code 284) 128 = .ok (.iload_n 2, 1) ∧ decode (ia_code 284) 129 = .ok (.invokevirtual 332, 3) ∧ decode (ia_code 284) 132 = .ok (.ifCond .ne 6, 3) ∧ decode (ia_code 284) 135 = .ok (.goto 85, 3) ∧ decode (ia_code 284) 138 = .ok (.iconst 0, 1) ∧ decode (ia_code 284) 139 = .ok (.istore 5, 2) ∧ decode (ia_code 284) 141 = .ok (.iload 5, 2) ∧ decode (ia_code 284) 143 = .ok (.sipush 1296, 3) ∧ decode (ia_code 284) 146 = .ok (.if_icmp .ge 74, 3) ∧ decode (ia_code 284) 149 = .ok (.aload_n 0, 1) ∧ decode (ia_code 284) 150 = .ok (.iload 5, 2) ∧ decode (ia_code 284) 152 = .ok (.iload 4, 2) ∧ decode (ia_code 284) 154 = .ok (.invokevirtual 335, 3) ∧ decode (ia_code 284) 157 = .ok (.istore 6, 2) ∧ decode (ia_code 284) 159 = .ok (.iload 6, 2) ∧ decode (ia_code 284) 161 = .ok (.ifCond .lt 53, 3) ∧ decode (ia_code 284) 164 = .ok (.aload_n 0, 1) ∧ decode (ia_code 284) 165 = .ok (.getfield 56, 3) ∧ decode (ia_code 284) 168 = .ok (.sipush 1296, 3) ∧ decode (ia_code 284) 171 = .ok (.iload_n 3, 1) ∧ decode (ia_code 284) 172 = .ok (.imul, 1) ∧ decode (ia_code 284) 173 = .ok (.iload 5, 2) ∧ decode (ia_code 284) 175 = .ok (.iadd, 1) ∧ decode (ia_code 284) 176 = .ok (.aload_n 0, 1) ∧ decode (ia_code 284) 177 = .ok (.getfield 56, 3) ∧ decode (ia_code 284) 180 = .ok (.sipush 1296, 3) ∧ decode (ia_code 284) 183 = .ok (.iload_n 3, 1) ∧ decode (ia_code 284) 184 = .ok (.imul, 1) ∧ decode (ia_code 284) 185 = .ok (.iload 5, 2) ∧ decode (ia_code 284) 187 = .ok (.iadd, 1) ∧ decode (ia_code 284) 188 = .ok (.iaload, 1) ∧ decode (ia_code 284) 189 = .ok (.iload 4, 2) ∧ decode (ia_code 284) 191 = .ok (.invokestatic 322, 3) ∧ decode (ia_code 284) 194 = .ok (.aload_n 0, 1) ∧ decode (ia_code 284) 195 = .ok (.getfield 56, 3) ∧ decode (ia_code 284) 198 = .ok (.sipush 1296, 3) ∧ decode (ia_code 284) 201 = .ok (.iload_n 3, 1) ∧ decode (ia_code 284) 202 = .ok (.iconst 1, 1) ∧ decode (ia_code 284) 203 = .ok (.iadd, 1) ∧ decode (ia_code 284) 204 = .ok (.imul, 1) ∧ decode (ia_code 284) 205 = .ok (.iload 6, 2) ∧ decode (ia_code 284) 207 = .ok (.iadd, 1) ∧ decode (ia_code 284) 208 = .ok (.iaload, 1) ∧ decode (ia_code 284) 209 = .ok (.iadd, 1) ∧ decode (ia_code 284) 210 = .ok (.invokestatic 297, 3) ∧ decode (ia_code 284) 213 = .ok (.iastore, 1) ∧ decode (ia_code 284) 214 = .ok (.iinc 5 1, 3) ∧ decode (ia_code 284) 217 = .ok (.goto (-76), 3) ∧ decode (ia_code 284) 220 = .ok (.iinc 4 1, 3) ∧ decode (ia_code 284) 223 = .ok (.goto (-115), 3) ∧ decode (ia_code 284) 226 = .ok (.iinc 3 (-1), 3) ∧ decode (ia_code 284) 229 = .ok (.goto (-187), 3) ∧ decode (ia_code 284) 232 = .ok (.return_, 1) := by
  refine ⟨?_, ?_, ?_, ?_, ?_, ?_, ?_, ?_, ?_, ?_, ?_, ?_, ?_, ?_, ?_, ?_, ?_, ?_, ?_, ?_, ?_, ?_, ?_, ?_, ?_, ?_, ?_, ?_, ?_, ?_, ?_, ?_, ?_, ?_, ?_, ?_, ?_, ?_, ?_, ?_, ?_, ?_, ?_, ?_, ?_, ?_, ?_, ?_, ?_, ?_, ?_, ?_, ?_, ?_, ?_, ?_, ?_, ?_, ?_, ?_, ?_, ?_, ?_, ?_, ?_, ?_, ?_, ?_, ?_, ?_, ?_, ?_, ?_, ?_, ?_, ?_, ?_, ?_, ?_, ?_, ?_, ?_, ?_, ?_, ?_, ?_, ?_, ?_, ?_, ?_, ?_, ?_, ?_, ?_, ?_, ?_, ?_, ?_, ?_, ?_, ?_, ?_, ?_, ?_, ?_, ?_, ?_, ?_, ?_, ?_, ?_, ?_, ?_, ?_, ?_, ?_, ?_, ?_, ?_, ?_, ?_, ?_, ?_, ?_⟩ <;> decide +kernel
set_option maxRecDepth 100000 in
theorem ht_m : ia_maxL 284 = 7 ∧ ia_ret 284 = none ∧ wk_gf 284 56 184 24 (193 + 3) = true ∧ wk_gf 284 33 184 6 (186 + 3) = true ∧ wk_ar 193 50 9072 = true ∧ wk_ar 186 50 301 = true ∧ ia_pl (ia_cls 284) 207 = some (1, 245, 1, 0, 1672) ∧ ia_na 245 = 2 ∧ (ia_mc 245 = 0 ∧ ia_ms 245 = 0) ∧ ia_pl (ia_cls 284) 332 = some (1, 260, 0, 0, 1888) ∧ ia_na 260 = 4 ∧ (ia_mc 260 = 0 ∧ ia_ms 260 = 0) ∧ ia_pl (ia_cls 284) 335 = some (1, 288, 0, 0, 1903) ∧ ia_na 288 = 3 ∧ (ia_mc 288 = 0 ∧ ia_ms 288 = 0) ∧ ia_pl (ia_cls 284) 322 = some (1, 279, 1, 0, 1896) ∧ ia_na 279 = 1 ∧ (ia_mc 279 = 0 ∧ ia_ms 279 = 0) ∧ ia_pl (ia_cls 284) 297 = some (1, 272, 1, 0, 1853) ∧ ia_na 272 = 2 ∧ (ia_mc 272 = 0 ∧ ia_ms 272 = 0) := ⟨by decide +kernel, by decide +kernel, by decide +kernel, by decide +kernel, by decide +kernel, by decide +kernel, by decide +kernel, by decide +kernel, ⟨by decide +kernel, by decide +kernel⟩, by decide +kernel, by decide +kernel, ⟨by decide +kernel, by decide +kernel⟩, by decide +kernel, by decide +kernel, ⟨by decide +kernel, by decide +kernel⟩, by decide +kernel, by decide +kernel, ⟨by decide +kernel, by decide +kernel⟩, by decide +kernel, by decide +kernel, ⟨by decide +kernel, by decide +kernel⟩⟩
theorem ht_c0 : (Int32.ofInt 0).toInt = 0 := by decide
/-- the last row is 0 -/
theorem ht_l1 (w : cm_W) (s d : Int32) (P : Nat) (hP : (w.1 186 0).toInt = (P : Int)) (hP6 : P ≤ 6) (Q : cm_O → Prop) (hk : ∀ w', hE w w' → (∀ u, u < 1296 → hf w' P u = Int32.ofInt 0) → cm_X (cm_C 3) 284 33 [some (.inr (.inr (some 184))), some (.inl s), some (.inl d), some (.inl (Int32.ofNat 1296)), none, none, none] [] w' Q) : ∀ (n j : Nat) (w1 : cm_W), n + j = 1296 → hE w w1 → (∀ u, u < j → hf w1 P u = Int32.ofInt 0) → cm_X (cm_C 3) 284 2 [some (.inr (.inr (some 184))), some (.inl s), some (.inl d), some (.inl (Int32.ofNat j)), none, none, none] [] w1 Q := by
  obtain ⟨d0, d1, d2, d3, d6, d9, d10, d13, d16, d17, d20, d21, d22, d23, d24, d25, d26, d27, d30, d33, d34, d37, d38, d39, d40, d41, d42, d43, d46, d47, d49, d51, d54, d57, d58, d61, d64, d65, d66, d68, d69, d70, d71, d74, d77, d80, d83, d84, d87, d90, d91, d92, d93, d94, d96, d97, d98, d99, d102, d105, d106, d108, d110, d113, d116, d117, d118, d121, d124, d125, d126, d128, d129, d132, d135, d138, d139, d141, d143, d146, d149, d150, d152, d154, d157, d159, d161, d164, d165, d168, d171, d172, d173, d175, d176, d177, d180, d183, d184, d185, d187, d188, d189, d191, d194, d195, d198, d201, d202, d203, d204, d205, d207, d208, d209, d210, d213, d214, d217, d220, d223, d226, d229, d232⟩ := ht_d
  obtain ⟨m1, m2, gf, gs, af, as_, b1, b2, b3, i1, i2, i3, u1, u2, u3, p1, p2, p3, l1, l2, l3⟩ := ht_m
  intro n
  induction n with
  | zero =>
    intro j w1 hj hE1 h0
    have ej : j = 1296 := by omega
    subst ej
    refine wk_iload_n d2 rfl ?_
    refine wk_sipush d3 ?_
    refine wk_icmp d6 (t := 33) rfl (fun _ => hk w1 hE1 h0) (fun hc => ?_)
    have := (hk_ge (by omega) hk_c1296 hc).2 rfl
    omega
  | succ n ih =>
    intro j w1 hj hE1 h0
    have hp1 : w1.1 186 0 = Int32.ofNat P := hk_of (by rw [hE1.1 186 0 (by decide)]; exact hP) (by omega)
    have hix := hk_ix (m := P) (u := j) hP6 (by omega)
    refine wk_iload_n d2 rfl ?_
    refine wk_sipush d3 ?_
    refine wk_icmp d6 (t := 33) rfl (fun hc => ?_) (fun _ => ?_)
    · have := (hk_ge (by omega) hk_c1296 hc).1 rfl
      omega
    refine wk_aload_n d9 rfl ?_
    refine wk_getR gf d10 ?_
    refine wk_sipush d13 ?_
    refine wk_aload_n d16 rfl ?_
    refine wk_getR gs d17 ?_
    refine wk_iconst d20 ?_
    refine wk_iaload as_ (by rw [ht_c0]; decide) (by rw [ht_c0]; decide) d21 ?_
    rw [ht_c0]
    show cm_X _ _ _ _ (.inl (w1.1 186 0) :: _) _ _
    rw [hp1]
    refine wk_imul d22 ?_
    refine wk_iload_n d23 rfl ?_
    refine wk_iadd d24 ?_
    refine wk_iconst d25 ?_
    refine wk_iastore af (by rw [hix]; omega) (by rw [hix]; omega) d26 ?_
    rw [hix, show ((1296 * P + j : Nat) : Int).toNat = 1296 * P + j from by omega]
    refine wk_iinc d27 (by rw [m1]; rfl) rfl rfl ?_
    refine wk_goto d30 (t := 2) rfl ?_
    rw [hk_inc j (by omega)]
    refine ih (j + 1) _ (by omega) (hE_u1 hE1) (fun u hu => ?_)
    rw [hf_u1 (by omega) (by omega)]
    by_cases hz : P = P ∧ u = j
    · rw [if_pos hz]
    · rw [if_neg hz]
      exact h0 u (by omega)
/-- a row of the table: FAR, or by a plate -/
def hRow (w0 : cm_W) (s d : Int32) (w : cm_W) (m u : Nat) : Prop := 0 ≤ (hf w m u).toInt ∧ (hf w m u).toInt ≤ 1000000 ∧ (hbt s (Int32.ofNat m) = false → hf w m u = hf w (m + 1) u) ∧ (hbt s (Int32.ofNat m) = true → (hf w m u).toInt = 1000000 ∨ ∃ p v, p < 256 ∧ v < 1296 ∧ hfr w0 (Int32.ofNat m) (Int32.ofNat p) d = true ∧ hu (fun j => w0.1 186 (100 + j)) (Int32.ofNat p) 4 0 (Int32.ofNat u) (Int32.ofInt 1) (Int32.ofNat u) = Int32.ofNat v ∧ (hf w m u).toInt = (hp (Int32.ofNat p)).toInt + (hf w (m + 1) v).toInt)
/-- rows from M on -/
def hTab (w0 : cm_W) (s d : Int32) (P : Nat) (w : cm_W) (M : Nat) : Prop := (∀ u, u < 1296 → hf w P u = Int32.ofInt 0) ∧ ∀ m, M ≤ m → m < P → ∀ u, u < 1296 → hRow w0 s d w m u

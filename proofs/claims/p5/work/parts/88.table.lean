/-! ## by hand: table of the reference (wip/p2/gentab9.py) -/
set_option maxRecDepth 100000 in
theorem hb_d : decode (ia_code 144) 0 = .ok (.aload_n 0, 1) ∧ decode (ia_code 144) 1 = .ok (.iconst 0, 1) ∧ decode (ia_code 144) 2 = .ok (.putfield 1, 3) ∧ decode (ia_code 144) 5 = .ok (.iload_n 1, 1) ∧ decode (ia_code 144) 6 = .ok (.ifCond .lt 27, 3) ∧ decode (ia_code 144) 9 = .ok (.iload_n 1, 1) ∧ decode (ia_code 144) 10 = .ok (.iconst 1, 1) ∧ decode (ia_code 144) 11 = .ok (.aload_n 0, 1) ∧ decode (ia_code 144) 12 = .ok (.getfield 33, 3) ∧ decode (ia_code 144) 15 = .ok (.iconst 0, 1) ∧ decode (ia_code 144) 16 = .ok (.iaload, 1) ∧ decode (ia_code 144) 17 = .ok (.ishl, 1) ∧ decode (ia_code 144) 18 = .ok (.if_icmp .ge 15, 3) ∧ decode (ia_code 144) 21 = .ok (.iload_n 1, 1) ∧ decode (ia_code 144) 22 = .ok (.aload_n 0, 1) ∧ decode (ia_code 144) 23 = .ok (.getfield 33, 3) ∧ decode (ia_code 144) 26 = .ok (.bipush 80, 2) ∧ decode (ia_code 144) 28 = .ok (.iaload, 1) ∧ decode (ia_code 144) 29 = .ok (.iand, 1) ∧ decode (ia_code 144) 30 = .ok (.ifCond .eq 5, 3) ∧ decode (ia_code 144) 33 = .ok (.iconst (-1), 1) ∧ decode (ia_code 144) 34 = .ok (.ireturn, 1) ∧ decode (ia_code 144) 35 = .ok (.iload_n 1, 1) ∧ decode (ia_code 144) 36 = .ok (.ifCond .ne 7, 3) ∧ decode (ia_code 144) 39 = .ok (.iconst 0, 1) ∧ decode (ia_code 144) 40 = .ok (.goto 6, 3) ∧ decode (ia_code 144) 43 = .ok (.ldc_w 331, 3) ∧ decode (ia_code 144) 46 = .ok (.istore_n 2, 1) ∧ decode (ia_code 144) 47 = .ok (.iconst (-1), 1) ∧ decode (ia_code 144) 48 = .ok (.istore_n 3, 1) ∧ decode (ia_code 144) 49 = .ok (.iload_n 1, 1) ∧ decode (ia_code 144) 50 = .ok (.ifCond .ne 7, 3) ∧ decode (ia_code 144) 53 = .ok (.iconst (-1), 1) ∧ decode (ia_code 144) 54 = .ok (.goto 8, 3) ∧ decode (ia_code 144) 57 = .ok (.aload_n 0, 1) ∧ decode (ia_code 144) 58 = .ok (.iload_n 1, 1) ∧ decode (ia_code 144) 59 = .ok (.invokevirtual 341, 3) ∧ decode (ia_code 144) 62 = .ok (.istore 4, 2) ∧ decode (ia_code 144) 64 = .ok (.iload 4, 2) ∧ decode (ia_code 144) 66 = .ok (.ifCond .lt 39, 3) ∧ decode (ia_code 144) 69 = .ok (.aload_n 0, 1) ∧ decode (ia_code 144) 70 = .ok (.iload_n 1, 1) ∧ decode (ia_code 144) 71 = .ok (.iload 4, 2) ∧ decode (ia_code 144) 73 = .ok (.invokevirtual 338, 3) ∧ decode (ia_code 144) 76 = .ok (.aload_n 0, 1) ∧ decode (ia_code 144) 77 = .ok (.getfield 56, 3) ∧ decode (ia_code 144) 80 = .ok (.iconst 0, 1) ∧ decode (ia_code 144) 81 = .ok (.iaload, 1) ∧ decode (ia_code 144) 82 = .ok (.iload_n 2, 1) ∧ decode (ia_code 144) 83 = .ok (.if_icmp .lt 6, 3) ∧ decode (ia_code 144) 86 = .ok (.goto 13, 3) ∧ decode (ia_code 144) 89 = .ok (.aload_n 0, 1) ∧ decode (ia_code 144) 90 = .ok (.getfield 56, 3) ∧ decode (ia_code 144) 93 = .ok (.iconst 0, 1) ∧ decode (ia_code 144) 94 = .ok (.iaload, 1) ∧ decode (ia_code 144) 95 = .ok (.istore_n 2, 1) ∧ decode (ia_code 144) 96 = .ok (.iload 4, 2) ∧ decode (ia_code 144) 98 = .ok (.istore_n 3, 1) ∧ decode (ia_code 144) 99 = .ok (.iinc 4 (-1), 3) ∧ decode (ia_code 144) 102 = .ok (.goto (-38), 3) ∧ decode (ia_code 144) 105 = .ok (.iload_n 2, 1) ∧ decode (ia_code 144) 106 = .ok (.ldc_w 331, 3) ∧ decode (ia_code 144) 109 = .ok (.if_icmp .lt 5, 3) ∧ decode (ia_code 144) 112 = .ok (.iconst (-1), 1) ∧ decode (ia_code 144) 113 = .ok (.ireturn, 1) ∧ decode (ia_code 144) 114 = .ok (.aload_n 0, 1) ∧ decode (ia_code 144) 115 = .ok (.aload_n 0, 1) ∧ decode (ia_code 144) 116 = .ok (.getfield 33, 3) ∧ decode (ia_code 144) 119 = .ok (.iconst 0, 1) ∧ decode (ia_code 144) 120 = .ok (.iaload, 1) ∧ decode (ia_code 144) 121 = .ok (.putfield 62, 3) ∧ decode (ia_code 144) 124 = .ok (.aload_n 0, 1) ∧ decode (ia_code 144) 125 = .ok (.iload_n 3, 1) ∧ decode (ia_code 144) 126 = .ok (.putfield 65, 3) ∧ decode (ia_code 144) 129 = .ok (.iload_n 3, 1) ∧ decode (ia_code 144) 130 = .ok (.ifCond .lt 12, 3) ∧ decode (ia_code 144) 133 = .ok (.aload_n 0, 1) ∧ decode (ia_code 144) 134 = .ok (.iload_n 1, 1) ∧ decode (ia_code 144) 135 = .ok (.iload_n 3, 1) ∧ decode (ia_code 144) 136 = .ok (.invokevirtual 344, 3) ∧ decode (ia_code 144) 139 = .ok (.goto 27, 3) ∧ decode (ia_code 144) 142 = .ok (.iconst 0, 1) ∧ decode (ia_code 144) 143 = .ok (.istore 4, 2) ∧ decode (ia_code 144) 145 = .ok (.iload 4, 2) ∧ decode (ia_code 144) 147 = .ok (.bipush 6, 2) ∧ decode (ia_code 144) 149 = .ok (.if_icmp .ge 17, 3) ∧ decode (ia_code 144) 152 = .ok (.aload_n 0, 1) ∧ decode (ia_code 144) 153 = .ok (.getfield 59, 3) ∧ decode (ia_code 144) 156 = .ok (.iload 4, 2) ∧ decode (ia_code 144) 158 = .ok (.iconst (-1), 1) ∧ decode (ia_code 144) 159 = .ok (.iastore, 1) ∧ decode (ia_code 144) 160 = .ok (.iinc 4 1, 3) ∧ decode (ia_code 144) 163 = .ok (.goto (-18), 3) ∧ decode (ia_code 144) 166 = .ok (.iload_n 2, 1) ∧ decode (ia_code 144) 167 = .ok (.ireturn, 1) := by
  refine ⟨?_, ?_, ?_, ?_, ?_, ?_, ?_, ?_, ?_, ?_, ?_, ?_, ?_, ?_, ?_, ?_, ?_, ?_, ?_, ?_, ?_, ?_, ?_, ?_, ?_, ?_, ?_, ?_, ?_, ?_, ?_, ?_, ?_, ?_, ?_, ?_, ?_, ?_, ?_, ?_, ?_, ?_, ?_, ?_, ?_, ?_, ?_, ?_, ?_, ?_, ?_, ?_, ?_, ?_, ?_, ?_, ?_, ?_, ?_, ?_, ?_, ?_, ?_, ?_, ?_, ?_, ?_, ?_, ?_, ?_, ?_, ?_, ?_, ?_, ?_, ?_, ?_, ?_, ?_, ?_, ?_, ?_, ?_, ?_, ?_, ?_, ?_, ?_, ?_, ?_, ?_, ?_, ?_, ?_, ?_⟩ <;> decide +kernel
set_option maxRecDepth 100000 in
theorem hb_m : ia_maxL 144 = 5 ∧ ia_ret 144 = some .int ∧ wk_gf 144 33 184 6 (186 + 3) = true ∧ wk_gf 144 56 184 24 (193 + 3) = true ∧ wk_gf 144 59 184 25 (194 + 3) = true ∧ wk_pf 144 1 184 0 0 = true ∧ wk_pf 144 62 184 26 0 = true ∧ wk_pf 144 65 184 27 0 = true ∧ wk_ar 186 50 301 = true ∧ wk_ar 193 50 9072 = true ∧ wk_ar 194 50 6 = true ∧ ia_pl (ia_cls 144) 341 = some (1, 270, 0, 0, 1880) ∧ ia_na 270 = 2 ∧ (ia_mc 270 = 0 ∧ ia_ms 270 = 0) ∧ ia_pl (ia_cls 144) 338 = some (1, 284, 0, 0, 1884) ∧ ia_na 284 = 3 ∧ (ia_mc 284 = 0 ∧ ia_ms 284 = 0) ∧ ia_pl (ia_cls 144) 344 = some (1, 271, 0, 0, 1907) ∧ ia_na 271 = 3 ∧ (ia_mc 271 = 0 ∧ ia_ms 271 = 0) ∧ ia_pl (ia_cls 144) 331 = some (8, 2148483648, 0, 0, 1879) ∧ (Nat.beq 0 1 || cm_rcv 270 [.inr (.inr (some 184)), .inl 0]) = true ∧ (Nat.beq 0 1 || cm_rcv 284 [.inr (.inr (some 184)), .inl 0, .inl 0]) = true ∧ (Nat.beq 0 1 || cm_rcv 271 [.inr (.inr (some 184)), .inl 0, .inl 0]) = true := ⟨by decide +kernel, by decide +kernel, by decide +kernel, by decide +kernel, by decide +kernel, by decide +kernel, by decide +kernel, by decide +kernel, by decide +kernel, by decide +kernel, by decide +kernel, by decide +kernel, by decide +kernel, ⟨by decide +kernel, by decide +kernel⟩, by decide +kernel, by decide +kernel, ⟨by decide +kernel, by decide +kernel⟩, by decide +kernel, by decide +kernel, ⟨by decide +kernel, by decide +kernel⟩, by decide +kernel, by decide +kernel, by decide +kernel, by decide +kernel⟩
theorem wk_ishl {C : Nat → List cm_V → cm_W → cm_O → Prop} {y pc : Nat} {lv : cm_L} {st : List cm_V} {w : cm_W} {Q : cm_O → Prop} {x z : Int32} (hd : decode (ia_code y) pc = .ok (.ishl, 1)) (k : cm_X C y (pc + 1) lv (.inl (x <<< (z &&& 31)) :: st) w Q) : cm_X C y pc lv (.inl z :: .inl x :: st) w Q := cm_X_do (q := (pc + 1, lv, .inl (x <<< (z &&& 31)) :: st, w)) hd rfl k
theorem hb_E (x : Int32) : (ia_E x : Int) = x.toInt + 2147483648 := by
  unfold ia_E
  have h := BitVec.toInt_eq_toNat_cond x.toBitVec
  have hl := x.toBitVec.isLt
  show _ = x.toBitVec.toInt + 2147483648
  rw [h]
  split <;> omega
theorem hb_in {lo hi : Nat} {x : Int32} (h : sv_in (lo, hi) x) : (lo : Int) - 2147483648 ≤ x.toInt ∧ x.toInt ≤ (hi : Int) - 2147483648 := by
  have e := hb_E x
  obtain ⟨h1, h2⟩ := h
  simp only at h1 h2
  omega
theorem hb_mk {lo hi : Nat} {x : Int32} (h1 : (lo : Int) - 2147483648 ≤ x.toInt) (h2 : x.toInt ≤ (hi : Int) - 2147483648) : sv_in (lo, hi) x := by
  have e := hb_E x
  refine ⟨?_, ?_⟩
  · show lo ≤ ia_E x
    omega
  · show ia_E x ≤ hi
    omega
set_option maxRecDepth 100000 in
theorem hb_G : sv_g sg 186 0 = (2147483648, 2147483654) ∧ sv_g sg 186 1 = (2147483648, 2147483652) ∧ sv_g sg 186 4 = (2147483649, 2147483668) ∧ (∀ j, j < 4 → sv_g sg 186 (100 + j) = (2147483648, 2147483653)) ∧ sv_g sg 184 0 = (2147483648, 2147483649) ∧ sv_g sg 184 26 = (2147483647, 2147483654) ∧ sv_g sg 184 27 = sv_top ∧ sv_gr sg 193 = [] ∧ sv_gr sg 194 = [] := ⟨by decide +kernel, by decide +kernel, by decide +kernel, by decide +kernel, by decide +kernel, by decide +kernel, by decide +kernel, by decide +kernel, by decide +kernel⟩
/-- the bounds of the world give what tables asks -/
theorem hb_pre {w : cm_W} (h : sv_w sg w) : ∃ P, hPre w P := by
  obtain ⟨g0, g1, g4, g100, -, -, -, -, -⟩ := hb_G
  have a0 := h 186 0
  have a1 := h 186 1
  have a4 := h 186 4
  rw [g0] at a0
  rw [g1] at a1
  rw [g4] at a4
  obtain ⟨b0, c0⟩ := hb_in a0
  obtain ⟨b1, c1⟩ := hb_in a1
  obtain ⟨b4, c4⟩ := hb_in a4
  refine ⟨(w.1 186 0).toInt.toNat, by omega, by omega, by omega, by omega, fun e => ?_, fun j hj => ?_⟩
  · rw [e] at b4
    exact absurd b4 (by decide)
  · have a := h 186 (100 + j)
    rw [g100 j hj] at a
    have := (hb_in a).2
    omega
theorem hPre_E {w w' : cm_W} {P : Nat} (h : ∀ k, w'.1 186 k = w.1 186 k) (hp : hPre w P) : hPre w' P := by
  unfold hPre at hp ⊢
  simp only [h]
  exact hp
theorem hE_tr {a b c : cm_W} (h : hE a b) (h' : hE b c) : hE a c := ⟨fun k j hk => (h'.1 k j hk).trans (h.1 k j hk), fun k j => (h'.2 k j).trans (h.2 k j)⟩
theorem hE2_tr {a b c : cm_W} (h : hE2 a b) (h' : hE2 b c) : hE2 a c := ⟨fun k j hk hk2 => (h'.1 k j hk hk2).trans (h.1 k j hk hk2), fun k j => (h'.2 k j).trans (h.2 k j)⟩
theorem hE2_refl (w : cm_W) : hE2 w w := ⟨fun _ _ _ _ => rfl, fun _ _ => rfl⟩
theorem hE2_w {a b : cm_W} (h : hE2 a b) (hG : sv_w sg a) : sv_w sg b := by
  obtain ⟨-, -, -, -, -, -, -, g1, g2⟩ := hb_G
  intro k i
  by_cases e1 : k = 193
  · subst e1
    unfold sv_g
    rw [g1]
    exact sv_in_top _
  by_cases e2 : k = 194
  · subst e2
    unfold sv_g
    rw [g2]
    exact sv_in_top _
  rw [h.1 k i e1 e2]
  exact hG k i
theorem hb_shl : ∀ P, P < 7 → ((Int32.ofInt 1) <<< (Int32.ofNat P &&& 31)).toInt = ((2 ^ P : Nat) : Int) := by decide
theorem hb_key : ∀ P, P < 7 → ∀ n, n < 64 → n < 2 ^ P → ∀ m, m < 6 → P ≤ m → hbt (Int32.ofNat n) (Int32.ofNat m) = false := by decide +kernel
theorem hb_pow : ∀ P, P < 7 → 2 ^ P ≤ 64 := by decide
theorem hb_bits {s : Int32} {P : Nat} (hP : P < 7) (h0 : 0 ≤ s.toInt) (h1 : s.toInt < ((2 ^ P : Nat) : Int)) : ∀ m, P ≤ m → m < 6 → hbt s (Int32.ofNat m) = false := by
  have hp := hb_pow P hP
  have e : s = Int32.ofNat s.toInt.toNat := hk_of (by omega) (by omega)
  intro m hm hm6
  rw [e]
  exact hb_key P hP _ (by omega) (by omega) m hm6 hm
theorem hb_lt {x z : Int32} {b : Bool} (h : cm_cmp .lt x z = b) : (b = true → x.toInt < z.toInt) ∧ (b = false → z.toInt ≤ x.toInt) := by
  subst h
  refine ⟨fun h => Int32.lt_iff_toInt_lt.mp (of_decide_eq_true h), fun h => ?_⟩
  have := of_decide_eq_false h
  rw [Int32.lt_iff_toInt_lt] at this
  omega
theorem hb_ge {x z : Int32} {b : Bool} (h : cm_cmp .ge x z = b) : (b = true → z.toInt ≤ x.toInt) ∧ (b = false → x.toInt < z.toInt) := by
  subst h
  have e : cm_cmp .ge x z = !(cm_cmp .lt x z) := rfl
  refine ⟨fun h => ?_, fun h => ?_⟩
  · rw [e] at h
    exact (hb_lt (b := false) (by cases hh : cm_cmp .lt x z with | true => rw [hh] at h; cases h | false => rfl)).2 rfl
  · rw [e] at h
    exact (hb_lt (b := true) (by cases hh : cm_cmp .lt x z with | false => rw [hh] at h; cases h | true => rfl)).1 rfl
theorem hb_dec {x : Int32} (h : 0 ≤ x.toInt) : (x + Int32.ofInt (-1)).toInt = x.toInt - 1 := by
  have := Int32.toInt_lt x
  rw [Int32.toInt_add, show (Int32.ofInt (-1)).toInt = -1 from by decide]
  exact Int.bmod_eq_of_le (by omega) (by omega)
theorem hb_z : (0 : Int32).toInt = 0 := by decide
/-- what the search has in hand -/
def hBest (w0 : cm_W) (s : Int32) (P : Nat) (b dy : Int32) : Prop := 1000000 ≤ b.toInt ∨ dy.toInt < 0 ∨ ∃ w2 w1, (∀ k, w2.1 186 k = w0.1 186 k) ∧ hTab w2 s dy P w1 0 ∧ hTabM w2 s dy P w1 0 ∧ hf w1 0 0 = b
/-- the days -/
theorem hb_l1 (w0 : cm_W) (s : Int32) (P : Nat) (hpre : hPre w0 P) (Q : cm_O → Prop) (hk : ∀ w b dy dd, hE w0 w → hBest w0 s P b dy → cm_X (cm_C 5) 144 105 [some (.inr (.inr (some 184))), some (.inl s), some (.inl b), some (.inl dy), some (.inl dd)] [] w Q) : ∀ (n : Nat) (dd b dy : Int32) (w : cm_W), dd.toInt < (n : Int) → hE w0 w → hBest w0 s P b dy → cm_X (cm_C 5) 144 64 [some (.inr (.inr (some 184))), some (.inl s), some (.inl b), some (.inl dy), some (.inl dd)] [] w Q := by
  obtain ⟨d0, d1, d2, d5, d6, d9, d10, d11, d12, d15, d16, d17, d18, d21, d22, d23, d26, d28, d29, d30, d33, d34, d35, d36, d39, d40, d43, d46, d47, d48, d49, d50, d53, d54, d57, d58, d59, d62, d64, d66, d69, d70, d71, d73, d76, d77, d80, d81, d82, d83, d86, d89, d90, d93, d94, d95, d96, d98, d99, d102, d105, d106, d109, d112, d113, d114, d115, d116, d119, d120, d121, d124, d125, d126, d129, d130, d133, d134, d135, d136, d139, d142, d143, d145, d147, d149, d152, d153, d156, d158, d159, d160, d163, d166, d167⟩ := hb_d
  obtain ⟨m1, m2, gs, gf, gp, pt, pm, pd, as_, af, ap, l1, l2, l3, t1, t2, t3, y1, y2, y3, far, rl, rt, ry⟩ := hb_m
  intro n
  induction n with
  | zero =>
    intro dd b dy w hn hEw hB
    refine wk_iload d64 rfl ?_
    refine wk_if d66 (t := 105) rfl (fun _ => hk w b dy dd hEw hB) (fun hc => ?_)
    have := (hb_lt hc).2 rfl
    rw [hb_z] at this
    omega
  | succ n ih =>
    intro dd b dy w hn hEw hB
    refine wk_iload d64 rfl ?_
    refine wk_if d66 (t := 105) rfl (fun _ => hk w b dy dd hEw hB) (fun hc => ?_)
    have hd0 := (hb_lt hc).2 rfl
    rw [hb_z] at hd0
    have h186 : ∀ k, w.1 186 k = w0.1 186 k := fun k => hEw.1 186 k (by decide)
    obtain ⟨w', hC, a1, a2, a3⟩ := ht_ok w s dd P (hPre_E h186 hpre)
    have hE' := hE_tr hEw a1
    refine wk_aload_n d69 rfl ?_
    refine wk_iload_n d70 rfl ?_
    refine wk_iload d71 rfl ?_
    refine wk_call (kd := 0) (i := 338) d73 rfl (wk_cal (as := [.inr (.inr (some 184)), .inl s, .inl dd]) (t := []) t1 rfl t2 t3 rfl rfl rt rfl) (cm_C_mono (by decide) hC) ?_
    have fin : ∀ b' dy', hBest w0 s P b' dy' → cm_X (cm_C 5) 144 99 [some (.inr (.inr (some 184))), some (.inl s), some (.inl b'), some (.inl dy'), some (.inl dd)] [] w' Q := fun b' dy' hB' => by
      refine wk_iinc d99 (by rw [m1]; rfl) rfl rfl ?_
      refine wk_goto d102 (t := 64) rfl ?_
      exact ih _ b' dy' w' (by rw [hb_dec hd0]; omega) hE' hB'
    refine wk_aload_n d76 rfl ?_
    refine wk_getR gf d77 ?_
    refine wk_iconst d80 ?_
    refine wk_iaload af (by rw [ht_c0]; decide) (by rw [ht_c0]; decide) d81 ?_
    refine wk_iload_n d82 rfl ?_
    refine wk_icmp d83 (t := 89) rfl (fun _ => ?_) (fun _ => ?_)
    · refine wk_aload_n d89 rfl ?_
      refine wk_getR gf d90 ?_
      refine wk_iconst d93 ?_
      refine wk_iaload af (by rw [ht_c0]; decide) (by rw [ht_c0]; decide) d94 ?_
      refine wk_istore_n d95 (by rw [m1]; rfl) rfl ?_
      refine wk_iload d96 rfl ?_
      refine wk_istore_n d98 (by rw [m1]; rfl) rfl ?_
      exact fin _ dd (.inr (.inr ⟨w, w', h186, a2, a3, by rw [ht_c0]; rfl⟩))
    · refine wk_goto d86 (t := 99) rfl ?_
      exact fin b dy hB
/-- no plates -/
theorem hb_l2 (s b dy : Int32) (ws : cm_W) (Q : cm_O → Prop) (hk : ∀ w, hE2 ws w → Q (some (.inl b), w)) : ∀ (n m : Nat) (w : cm_W), n + m = 6 → hE2 ws w → cm_X (cm_C 5) 144 145 [some (.inr (.inr (some 184))), some (.inl s), some (.inl b), some (.inl dy), some (.inl (Int32.ofNat m))] [] w Q := by
  obtain ⟨d0, d1, d2, d5, d6, d9, d10, d11, d12, d15, d16, d17, d18, d21, d22, d23, d26, d28, d29, d30, d33, d34, d35, d36, d39, d40, d43, d46, d47, d48, d49, d50, d53, d54, d57, d58, d59, d62, d64, d66, d69, d70, d71, d73, d76, d77, d80, d81, d82, d83, d86, d89, d90, d93, d94, d95, d96, d98, d99, d102, d105, d106, d109, d112, d113, d114, d115, d116, d119, d120, d121, d124, d125, d126, d129, d130, d133, d134, d135, d136, d139, d142, d143, d145, d147, d149, d152, d153, d156, d158, d159, d160, d163, d166, d167⟩ := hb_d
  obtain ⟨m1, m2, gs, gf, gp, pt, pm, pd, as_, af, ap, l1, l2, l3, t1, t2, t3, y1, y2, y3, far, rl, rt, ry⟩ := hb_m
  intro n
  induction n with
  | zero =>
    intro m w hm hEw
    refine wk_iload d145 rfl ?_
    refine wk_bipush d147 ?_
    refine wk_icmp d149 (t := 166) rfl (fun _ => ?_) (fun hc => ?_)
    · refine wk_iload_n d166 rfl ?_
      exact wk_ireturn d167 m2 rfl (hk w hEw)
    · have := (hk_ge (by omega) hl_c6 hc).2 rfl
      omega
  | succ n ih =>
    intro m w hm hEw
    have hmi : (Int32.ofNat m).toInt = (m : Int) := hk_to m (by omega)
    refine wk_iload d145 rfl ?_
    refine wk_bipush d147 ?_
    refine wk_icmp d149 (t := 166) rfl (fun hc => ?_) (fun _ => ?_)
    · have := (hk_ge (by omega) hl_c6 hc).1 rfl
      omega
    refine wk_aload_n d152 rfl ?_
    refine wk_getR gp d153 ?_
    refine wk_iload d156 rfl ?_
    refine wk_iconst d158 ?_
    refine wk_iastore ap (by rw [hmi]; omega) (by rw [hmi]; omega) d159 ?_
    refine wk_iinc d160 (by rw [m1]; rfl) rfl rfl ?_
    refine wk_goto d163 (t := 145) rfl ?_
    rw [hk_inc m (by omega)]
    exact ih (m + 1) _ (by omega) (hE2_u1 hEw)
/-- what table may change -/
def hFt (w w' : cm_W) : Prop := (∀ k i, k ≠ 193 → k ≠ 194 → ¬ (k = 184 ∧ (i = 0 ∨ i = 26 ∨ i = 27)) → w'.1 k i = w.1 k i) ∧ (∀ k i, w'.2 k i = w.2 k i)
theorem hFt_u1 {w w' : cm_W} {i : Nat} {x : Int32} (hi : i = 0 ∨ i = 26 ∨ i = 27) (h : hFt w w') : hFt w (cm_u1 w' 184 i x) := ⟨fun k j a b c => by
  rw [hs_u1_ne (fun z => c ⟨z.1, by rw [z.2]; exact hi⟩)]
  exact h.1 k j a b c, fun k j => h.2 k j⟩
theorem hFt_E {w w' w'' : cm_W} (h : hFt w w') (h' : hE2 w' w'') : hFt w w'' := ⟨fun k j a b c => (h'.1 k j a b).trans (h.1 k j a b c), fun k j => (h'.2 k j).trans (h.2 k j)⟩
/-- table of the reference ends -/
theorem hb_ok (w : cm_W) (s : Int32) (hG : sv_w sg w) : ∃ x w', cm_C 6 144 [.inr (.inr (some 184)), .inl s] w (some (.inl x), w') ∧ sv_w sg w' ∧ hFt w w' := by
  obtain ⟨d0, d1, d2, d5, d6, d9, d10, d11, d12, d15, d16, d17, d18, d21, d22, d23, d26, d28, d29, d30, d33, d34, d35, d36, d39, d40, d43, d46, d47, d48, d49, d50, d53, d54, d57, d58, d59, d62, d64, d66, d69, d70, d71, d73, d76, d77, d80, d81, d82, d83, d86, d89, d90, d93, d94, d95, d96, d98, d99, d102, d105, d106, d109, d112, d113, d114, d115, d116, d119, d120, d121, d124, d125, d126, d129, d130, d133, d134, d135, d136, d139, d142, d143, d145, d147, d149, d152, d153, d156, d158, d159, d160, d163, d166, d167⟩ := hb_d
  obtain ⟨m1, m2, gs, gf, gp, pt, pm, pd, as_, af, ap, l1, l2, l3, t1, t2, t3, y1, y2, y3, far, rl, rt, ry⟩ := hb_m
  obtain ⟨g0, g1, g4, g100, gt, gm, gd, -, -⟩ := hb_G
  have h : ∃ o, cm_C (5 + 1) 144 [.inr (.inr (some 184)), .inl s] w o ∧ (fun o : cm_O => ∃ x w', o = (some (.inl x), w') ∧ sv_w sg w' ∧ hFt w w') o := by
    refine wk_entry (by rw [m1]; exact Nat.le_of_ble_eq_true rfl) ?_
    rw [show cm_ent 144 [.inr (.inr (some 184)), .inl s] = [some (.inr (.inr (some 184))), some (.inl s), none, none, none] from by unfold cm_ent; rw [m1]; rfl]
    refine wk_aload_n d0 rfl ?_
    refine wk_iconst d1 ?_
    refine wk_putI pt (fun ci => wk_fitI ci) d2 ?_
    have hG0 : sv_w sg (cm_u1 w 184 0 (Int32.ofInt 0)) := sv_w_u1 hG (by rw [gt]; exact hb_mk (by decide) (by decide))
    have hF0 : hFt w (cm_u1 w 184 0 (Int32.ofInt 0)) := hFt_u1 (.inl rfl) ⟨fun _ _ _ _ _ => rfl, fun _ _ => rfl⟩
    generalize cm_u1 w 184 0 (Int32.ofInt 0) = w0 at hG0 hF0 ⊢
    obtain ⟨P, hpre⟩ := hb_pre hG0
    obtain ⟨hP, hP6, h10, h14, h4, hst⟩ := id hpre
    have hw0 : w0.1 186 0 = Int32.ofNat P := hk_of hP (by omega)
    have bad : ∀ l st', st' = ([] : List cm_V) → cm_X (cm_C 5) 144 33 l st' w0 (fun o : cm_O => ∃ x w', o = (some (.inl x), w') ∧ sv_w sg w' ∧ hFt w w') := fun l st' e => by
      subst e
      refine wk_iconst d33 ?_
      exact wk_ireturn d34 m2 rfl ⟨_, w0, rfl, hG0, hF0⟩
    refine wk_iload_n d5 rfl ?_
    refine wk_if d6 (t := 33) rfl (fun _ => bad _ _ rfl) (fun hc0 => ?_)
    have hs0 := (hb_lt hc0).2 rfl
    rw [hb_z] at hs0
    refine wk_iload_n d9 rfl ?_
    refine wk_iconst d10 ?_
    refine wk_aload_n d11 rfl ?_
    refine wk_getR gs d12 ?_
    refine wk_iconst d15 ?_
    refine wk_iaload as_ (by rw [ht_c0]; decide) (by rw [ht_c0]; decide) d16 ?_
    rw [ht_c0]
    show cm_X _ _ _ _ (.inl (w0.1 186 0) :: _) _ _
    rw [hw0]
    refine wk_ishl d17 ?_
    refine wk_icmp d18 (t := 33) rfl (fun _ => bad _ _ rfl) (fun hc1 => ?_)
    have hs1 := (hb_ge hc1).2 rfl
    rw [hb_shl P (by omega)] at hs1
    have hpw := hb_pow P (by omega)
    have hbits := hb_bits (by omega) hs0 hs1
    refine wk_iload_n d21 rfl ?_
    refine wk_aload_n d22 rfl ?_
    refine wk_getR gs d23 ?_
    refine wk_bipush d26 ?_
    refine wk_iaload as_ (by decide) (by decide) d28 ?_
    refine wk_iand d29 ?_
    refine wk_if d30 (t := 35) rfl (fun _ => ?_) (fun _ => bad _ _ rfl)
    have tail : ∀ w1 b dy dd, hE w0 w1 → hBest w0 s P b dy → cm_X (cm_C 5) 144 105 [some (.inr (.inr (some 184))), some (.inl s), some (.inl b), some (.inl dy), some (.inl dd)] [] w1 (fun o : cm_O => ∃ x w', o = (some (.inl x), w') ∧ sv_w sg w' ∧ hFt w w') := fun w1 b dy dd hE1 hB => by
      have hG1 : sv_w sg w1 := hE2_w (hE2_of hE1) hG0
      have hF1 : hFt w w1 := hFt_E hF0 (hE2_of hE1)
      have h186 : ∀ k, w1.1 186 k = w0.1 186 k := fun k => hE1.1 186 k (by decide)
      refine wk_iload_n d105 rfl ?_
      refine wk_ldcw far d106 ?_
      refine wk_icmp d109 (t := 114) rfl (fun hc => ?_) (fun _ => ?_)
      rotate_left
      · refine wk_iconst d112 ?_
        exact wk_ireturn d113 m2 rfl ⟨_, w1, rfl, hG1, hF1⟩
      have hlt := (hb_lt hc).1 rfl
      rw [ht_farI] at hlt
      refine wk_aload_n d114 rfl ?_
      refine wk_aload_n d115 rfl ?_
      refine wk_getR gs d116 ?_
      refine wk_iconst d119 ?_
      refine wk_iaload as_ (by rw [ht_c0]; decide) (by rw [ht_c0]; decide) d120 ?_
      rw [ht_c0]
      show cm_X _ _ _ _ (.inl (w1.1 186 0) :: _) _ _
      refine wk_putI pm (fun ci => wk_fitI ci) d121 ?_
      have hx : sv_in (sv_g sg 184 26) (w1.1 186 0) := by
        have a := hG1 186 0
        rw [g0] at a
        obtain ⟨a1, a2⟩ := hb_in a
        rw [gm]
        exact hb_mk (by omega) (by omega)
      have hG2 := sv_w_u1 hG1 hx
      have hF2 : hFt w (cm_u1 w1 184 26 (w1.1 186 0)) := hFt_u1 (.inr (.inl rfl)) hF1
      have h186b : ∀ k, (cm_u1 w1 184 26 (w1.1 186 0)).1 186 k = w0.1 186 k := fun k => (hs_u1_ne (fun z => absurd z.1 (by decide))).trans (h186 k)
      generalize cm_u1 w1 184 26 (w1.1 186 0) = w2 at hG2 hF2 h186b ⊢
      refine wk_aload_n d124 rfl ?_
      refine wk_iload_n d125 rfl ?_
      refine wk_putI pd (fun ci => wk_fitI ci) d126 ?_
      have hG3 : sv_w sg (cm_u1 w2 184 27 dy) := sv_w_u1 hG2 (by rw [gd]; exact sv_in_top _)
      have hF3 : hFt w (cm_u1 w2 184 27 dy) := hFt_u1 (.inr (.inr rfl)) hF2
      have h186c : ∀ k, (cm_u1 w2 184 27 dy).1 186 k = w0.1 186 k := fun k => (hs_u1_ne (fun z => absurd z.1 (by decide))).trans (h186b k)
      generalize cm_u1 w2 184 27 dy = w3 at hG3 hF3 h186c ⊢
      refine wk_iload_n d129 rfl ?_
      refine wk_if d130 (t := 142) rfl (fun _ => ?_) (fun hc3 => ?_)
      · refine wk_iconst d142 ?_
        refine wk_istore d143 (by rw [m1]; rfl) rfl ?_
        exact hb_l2 s b dy w3 _ (fun w4 h4 => ⟨b, w4, rfl, hE2_w h4 hG3, hFt_E hF3 h4⟩) 6 0 w3 rfl (hE2_refl _)
      · have hdy := (hb_lt hc3).2 rfl
        rw [hb_z] at hdy
        obtain ⟨w4, hC4, hE4⟩ := hl_ok w3 s dy P (hPre_E h186c hpre) hbits (fun v1 c1 c2 c3 => by
          rcases hB with hB | hB | ⟨v2, v3, e1, e2, e3, e4⟩
          · omega
          · omega
          · have := hUniq (fun k => (h186c k).trans (e1 k).symm) e2 e3 c2 c3 P 0 (by omega) 0 (by omega)
            rw [← this, e4]
            exact hlt)
        refine wk_aload_n d133 rfl ?_
        refine wk_iload_n d134 rfl ?_
        refine wk_iload_n d135 rfl ?_
        refine wk_call (kd := 0) (i := 344) d136 rfl (wk_cal (as := [.inr (.inr (some 184)), .inl s, .inl dy]) (t := []) y1 rfl y2 y3 rfl rfl ry rfl) hC4 ?_
        refine wk_goto d139 (t := 166) rfl ?_
        refine wk_iload_n d166 rfl ?_
        exact wk_ireturn d167 m2 rfl ⟨b, w4, rfl, hE2_w hE4 hG3, hFt_E hF3 hE4⟩
    by_cases hs : s = 0
    · refine wk_iload_n d35 rfl ?_
      refine wk_if d36 (t := 43) rfl (fun hc => ?_) (fun _ => ?_)
      · rw [hs] at hc
        exact absurd hc (by decide)
      refine wk_iconst d39 ?_
      refine wk_goto d40 (t := 46) rfl ?_
      refine wk_istore_n d46 (by rw [m1]; rfl) rfl ?_
      refine wk_iconst d47 ?_
      refine wk_istore_n d48 (by rw [m1]; rfl) rfl ?_
      refine wk_iload_n d49 rfl ?_
      refine wk_if d50 (t := 57) rfl (fun hc => ?_) (fun _ => ?_)
      · rw [hs] at hc
        exact absurd hc (by decide)
      refine wk_iconst d53 ?_
      refine wk_goto d54 (t := 62) rfl ?_
      refine wk_istore d62 (by rw [m1]; rfl) rfl ?_
      exact hb_l1 w0 s P hpre _ tail 0 (Int32.ofInt (-1)) _ (Int32.ofInt (-1)) w0 (by decide) (hE_refl _) (.inr (.inl (by decide)))
    · have hne : s.toInt ≠ 0 := fun e => hs (Int32.toInt_inj.mp (by rw [e]; rfl))
      refine wk_iload_n d35 rfl ?_
      refine wk_if d36 (t := 43) rfl (fun _ => ?_) (fun hc => ?_)
      rotate_left
      · have : (!(decide (s = 0))) = false := hc
        rw [decide_eq_false hs] at this
        cases this
      refine wk_ldcw far d43 ?_
      refine wk_istore_n d46 (by rw [m1]; rfl) rfl ?_
      refine wk_iconst d47 ?_
      refine wk_istore_n d48 (by rw [m1]; rfl) rfl ?_
      refine wk_iload_n d49 rfl ?_
      refine wk_if d50 (t := 57) rfl (fun _ => ?_) (fun hc => ?_)
      rotate_left
      · have : (!(decide (s = 0))) = false := hc
        rw [decide_eq_false hs] at this
        cases this
      obtain ⟨r1, w1, hC1, hG1, hF1, q1, hq1, hr1, -, -⟩ := wk_use (d := 5) sm_270_40a484ae_ok (by decide) (as := [.inr (.inr (some 184)), .inl s]) (w := w0) ⟨rfl, hb_mk (lo := 2147483649) (hi := 4294967294) (by omega) (by omega), trivial⟩ (fun f hf => by cases hf) hG0
      have e1 : q1.1 = some (.inl (2147483648, 2147483847, 0, 0, 0)) := by
        rcases List.mem_cons.mp hq1 with rfl | hq1
        · rfl
        · cases hq1
      rw [e1] at hr1
      obtain ⟨x1, rfl, hx1⟩ := wk_int hr1
      have hE1 : hE w0 w1 := ⟨fun k j _ => (hF1 k j (fun ⟨r, z, _⟩ => by cases z)).1, fun k j => (hF1 k j (fun ⟨r, z, _⟩ => by cases z)).2⟩
      refine wk_aload_n d57 rfl ?_
      refine wk_iload_n d58 rfl ?_
      refine wk_call (kd := 0) (i := 341) d59 rfl (wk_cal (as := [.inr (.inr (some 184)), .inl s]) (t := []) l1 rfl l2 l3 rfl rfl rl rfl) hC1 ?_
      refine wk_istore d62 (by rw [m1]; rfl) rfl ?_
      exact hb_l1 w0 s P hpre _ tail 200 x1 _ (Int32.ofInt (-1)) w1 (by have := (hb_in hx1).2; omega) hE1 (.inr (.inl (by decide)))
  obtain ⟨o, hC, x, w', rfl, a1, a2⟩ := h
  exact ⟨x, w', hC, a1, a2⟩

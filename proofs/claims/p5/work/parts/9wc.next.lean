set_option maxRecDepth 100000 in
theorem xd_d0401d81 : decode (ia_code 61) 12 = .ok (.aload_n 0, 1) := fdd_d (by decide +kernel)
set_option maxRecDepth 100000 in
theorem xd_45d2c0ca : decode (ia_code 61) 13 = .ok (.getfield 46, 3) := fdd_d (by decide +kernel)
set_option maxRecDepth 100000 in
theorem xf_7c4ceb86 : wk_gf 61 46 2 4 0 = true := by decide +kernel
set_option maxRecDepth 100000 in
theorem xd_b77f46cf : decode (ia_code 61) 16 = .ok (.iload_n 1, 1) := fdd_d (by decide +kernel)
set_option maxRecDepth 100000 in
theorem xd_a8d747f7 : decode (ia_code 61) 17 = .ok (.if_icmp .ge 44, 3) := fdd_d (by decide +kernel)
set_option maxRecDepth 100000 in
theorem xd_65c86740 : decode (ia_code 61) 20 = .ok (.aload_n 0, 1) := fdd_d (by decide +kernel)
set_option maxRecDepth 100000 in
theorem xd_308ee00c : decode (ia_code 61) 21 = .ok (.getfield 15, 3) := fdd_d (by decide +kernel)
set_option maxRecDepth 100000 in
theorem xf_196043e5 : wk_gf 61 15 2 0 (1 + 3) = true := by decide +kernel
set_option maxRecDepth 100000 in
theorem xd_6594c6d3 : decode (ia_code 61) 24 = .ok (.aload_n 0, 1) := fdd_d (by decide +kernel)
set_option maxRecDepth 100000 in
theorem xd_dc5e4194 : decode (ia_code 61) 25 = .ok (.getfield 46, 3) := fdd_d (by decide +kernel)
set_option maxRecDepth 100000 in
theorem xd_0a75e9db : decode (ia_code 61) 28 = .ok (.iaload, 1) := fdd_d (by decide +kernel)
set_option maxRecDepth 100000 in
theorem xd_4f12cf9d : decode (ia_code 61) 29 = .ok (.bipush 32, 2) := fdd_d (by decide +kernel)
set_option maxRecDepth 100000 in
theorem xd_aa0e07c5 : decode (ia_code 61) 31 = .ok (.if_icmp .eq 17, 3) := fdd_d (by decide +kernel)
set_option maxRecDepth 100000 in
theorem xd_d54c7636 : decode (ia_code 61) 48 = .ok (.aload_n 0, 1) := fdd_d (by decide +kernel)
set_option maxRecDepth 100000 in
theorem xd_9b00c613 : decode (ia_code 61) 49 = .ok (.dup, 1) := fdd_d (by decide +kernel)
set_option maxRecDepth 100000 in
theorem xd_5aabe047 : decode (ia_code 61) 50 = .ok (.getfield 46, 3) := fdd_d (by decide +kernel)
set_option maxRecDepth 100000 in
theorem xd_f22ea42f : decode (ia_code 61) 53 = .ok (.iconst 1, 1) := fdd_d (by decide +kernel)
set_option maxRecDepth 100000 in
theorem xd_1da569e5 : decode (ia_code 61) 54 = .ok (.iadd, 1) := fdd_d (by decide +kernel)
set_option maxRecDepth 100000 in
theorem xd_bd4c968b : decode (ia_code 61) 55 = .ok (.putfield 46, 3) := fdd_d (by decide +kernel)
set_option maxRecDepth 100000 in
theorem xf_5e4f7f32 : wk_pf 61 46 2 4 0 = true := by decide +kernel
set_option maxRecDepth 100000 in
theorem xd_5e16efd0 : decode (ia_code 61) 58 = .ok (.goto (-46), 3) := fdd_d (by decide +kernel)
set_option maxRecDepth 100000 in
theorem xd_e4b1a3f4 : decode (ia_code 61) 34 = .ok (.aload_n 0, 1) := fdd_d (by decide +kernel)
set_option maxRecDepth 100000 in
theorem xd_2c2e0c60 : decode (ia_code 61) 35 = .ok (.getfield 15, 3) := fdd_d (by decide +kernel)
set_option maxRecDepth 100000 in
theorem xd_e4544141 : decode (ia_code 61) 38 = .ok (.aload_n 0, 1) := fdd_d (by decide +kernel)
set_option maxRecDepth 100000 in
theorem xd_ecf53e4f : decode (ia_code 61) 39 = .ok (.getfield 46, 3) := fdd_d (by decide +kernel)
set_option maxRecDepth 100000 in
theorem xd_ab5d4c23 : decode (ia_code 61) 42 = .ok (.iaload, 1) := fdd_d (by decide +kernel)
set_option maxRecDepth 100000 in
theorem xd_2508ff69 : decode (ia_code 61) 43 = .ok (.bipush 10, 2) := fdd_d (by decide +kernel)
set_option maxRecDepth 100000 in
theorem xd_197b72b0 : decode (ia_code 61) 45 = .ok (.if_icmp .ne 16, 3) := fdd_d (by decide +kernel)
set_option maxRecDepth 100000 in
theorem xd_97bd13cb : decode (ia_code 61) 61 = .ok (.aload_n 0, 1) := fdd_d (by decide +kernel)
set_option maxRecDepth 100000 in
theorem xd_5bd4d42c : decode (ia_code 61) 62 = .ok (.iconst (-1), 1) := fdd_d (by decide +kernel)
set_option maxRecDepth 100000 in
theorem xd_db286ace : decode (ia_code 61) 63 = .ok (.putfield 61, 3) := fdd_d (by decide +kernel)
set_option maxRecDepth 100000 in
theorem xf_893884ed : wk_pf 61 61 2 8 0 = true := by decide +kernel
set_option maxRecDepth 100000 in
theorem xd_e1048b65 : decode (ia_code 61) 66 = .ok (.aload_n 0, 1) := fdd_d (by decide +kernel)
set_option maxRecDepth 100000 in
theorem xd_66acf117 : decode (ia_code 61) 67 = .ok (.getfield 46, 3) := fdd_d (by decide +kernel)
set_option maxRecDepth 100000 in
theorem xd_ea8866e5 : decode (ia_code 61) 70 = .ok (.iload_n 1, 1) := fdd_d (by decide +kernel)
set_option maxRecDepth 100000 in
theorem xd_5e83a7fb : decode (ia_code 61) 71 = .ok (.if_icmp .lt 14, 3) := fdd_d (by decide +kernel)
set_option maxRecDepth 100000 in
theorem xd_f5d1dcb6 : decode (ia_code 61) 85 = .ok (.aload_n 0, 1) := fdd_d (by decide +kernel)
set_option maxRecDepth 100000 in
theorem xd_8334e58b : decode (ia_code 61) 86 = .ok (.aload_n 0, 1) := fdd_d (by decide +kernel)
set_option maxRecDepth 100000 in
theorem xd_0c5b011a : decode (ia_code 61) 87 = .ok (.getfield 46, 3) := fdd_d (by decide +kernel)
set_option maxRecDepth 100000 in
theorem xd_e8ab9ad8 : decode (ia_code 61) 90 = .ok (.putfield 58, 3) := fdd_d (by decide +kernel)
set_option maxRecDepth 100000 in
theorem xf_28da2167 : wk_pf 61 58 2 6 0 = true := by decide +kernel
set_option maxRecDepth 100000 in
theorem xd_993ecbeb : decode (ia_code 61) 93 = .ok (.aload_n 0, 1) := fdd_d (by decide +kernel)
set_option maxRecDepth 100000 in
theorem xd_c9c6fabd : decode (ia_code 61) 94 = .ok (.getfield 15, 3) := fdd_d (by decide +kernel)
set_option maxRecDepth 100000 in
theorem xd_99626a78 : decode (ia_code 61) 97 = .ok (.aload_n 0, 1) := fdd_d (by decide +kernel)
set_option maxRecDepth 100000 in
theorem xd_091dc892 : decode (ia_code 61) 98 = .ok (.getfield 46, 3) := fdd_d (by decide +kernel)
set_option maxRecDepth 100000 in
theorem xd_3f3cfe24 : decode (ia_code 61) 101 = .ok (.iaload, 1) := fdd_d (by decide +kernel)
set_option maxRecDepth 100000 in
theorem xd_967fc43c : decode (ia_code 61) 102 = .ok (.istore_n 2, 1) := fdd_d (by decide +kernel)
set_option maxRecDepth 100000 in
theorem xm_d99c1d45 : ia_maxL 61 = 3 := by decide +kernel
set_option maxRecDepth 100000 in
theorem xd_1c3f3ef8 : decode (ia_code 61) 103 = .ok (.iload_n 2, 1) := fdd_d (by decide +kernel)
set_option maxRecDepth 100000 in
theorem xd_922e8b62 : decode (ia_code 61) 104 = .ok (.bipush 97, 2) := fdd_d (by decide +kernel)
set_option maxRecDepth 100000 in
theorem xd_053438d6 : decode (ia_code 61) 106 = .ok (.if_icmp .lt 9, 3) := fdd_d (by decide +kernel)
set_option maxRecDepth 100000 in
theorem xd_70d029a5 : decode (ia_code 61) 115 = .ok (.iload_n 2, 1) := fdd_d (by decide +kernel)
set_option maxRecDepth 100000 in
theorem xd_c053b9a3 : decode (ia_code 61) 116 = .ok (.bipush 48, 2) := fdd_d (by decide +kernel)
set_option maxRecDepth 100000 in
theorem xd_cc490dde : decode (ia_code 61) 118 = .ok (.if_icmp .lt 14, 3) := fdd_d (by decide +kernel)
set_option maxRecDepth 100000 in
theorem xd_ff91fd09 : decode (ia_code 61) 132 = .ok (.aload_n 0, 1) := fdd_d (by decide +kernel)
set_option maxRecDepth 100000 in
theorem xd_1781b835 : decode (ia_code 61) 133 = .ok (.dup, 1) := fdd_d (by decide +kernel)
set_option maxRecDepth 100000 in
theorem xd_d8d2e388 : decode (ia_code 61) 134 = .ok (.getfield 46, 3) := fdd_d (by decide +kernel)
set_option maxRecDepth 100000 in
theorem xd_104f9980 : decode (ia_code 61) 137 = .ok (.iconst 1, 1) := fdd_d (by decide +kernel)
set_option maxRecDepth 100000 in
theorem xd_16ba51bb : decode (ia_code 61) 138 = .ok (.iadd, 1) := fdd_d (by decide +kernel)
set_option maxRecDepth 100000 in
theorem xd_133e06f3 : decode (ia_code 61) 139 = .ok (.putfield 46, 3) := fdd_d (by decide +kernel)
set_option maxRecDepth 100000 in
theorem xd_ce89ca7e : decode (ia_code 61) 142 = .ok (.aload_n 0, 1) := fdd_d (by decide +kernel)
set_option maxRecDepth 100000 in
theorem xd_7539a0a7 : decode (ia_code 61) 143 = .ok (.iload_n 2, 1) := fdd_d (by decide +kernel)
set_option maxRecDepth 100000 in
theorem xd_b014b399 : decode (ia_code 61) 144 = .ok (.putfield 70, 3) := fdd_d (by decide +kernel)
set_option maxRecDepth 100000 in
theorem xf_b4d7841d : wk_pf 61 70 2 10 0 = true := by decide +kernel
set_option maxRecDepth 100000 in
theorem xd_55a68139 : decode (ia_code 61) 147 = .ok (.aload_n 0, 1) := fdd_d (by decide +kernel)
set_option maxRecDepth 100000 in
theorem xd_0365dabc : decode (ia_code 61) 148 = .ok (.iload_n 2, 1) := fdd_d (by decide +kernel)
set_option maxRecDepth 100000 in
theorem xd_a84c6346 : decode (ia_code 61) 149 = .ok (.bipush 59, 2) := fdd_d (by decide +kernel)
set_option maxRecDepth 100000 in
theorem xd_b24acabb : decode (ia_code 61) 151 = .ok (.if_icmp .eq 27, 3) := fdd_d (by decide +kernel)
set_option maxRecDepth 100000 in
theorem xd_0469af23 : decode (ia_code 61) 178 = .ok (.iconst 4, 1) := fdd_d (by decide +kernel)
set_option maxRecDepth 100000 in
theorem xd_7c741bf1 : decode (ia_code 61) 179 = .ok (.goto 4, 3) := fdd_d (by decide +kernel)
set_option maxRecDepth 100000 in
theorem xd_3f258136 : decode (ia_code 61) 183 = .ok (.putfield 64, 3) := fdd_d (by decide +kernel)
set_option maxRecDepth 100000 in
theorem xf_f8656130 : wk_pf 61 64 2 5 0 = true := by decide +kernel
set_option maxRecDepth 100000 in
theorem xd_9e81f065 : decode (ia_code 61) 186 = .ok (.return_, 1) := fdd_d (by decide +kernel)
set_option maxRecDepth 100000 in
theorem xr_1524ee99 : ia_ret 61 = none := by decide +kernel
set_option maxRecDepth 100000 in
theorem xd_82a55d2e : decode (ia_code 61) 154 = .ok (.iload_n 2, 1) := fdd_d (by decide +kernel)
set_option maxRecDepth 100000 in
theorem xd_efc05500 : decode (ia_code 61) 155 = .ok (.bipush 40, 2) := fdd_d (by decide +kernel)
set_option maxRecDepth 100000 in
theorem xd_38b63155 : decode (ia_code 61) 157 = .ok (.if_icmp .eq 21, 3) := fdd_d (by decide +kernel)
set_option maxRecDepth 100000 in
theorem xd_dae75595 : decode (ia_code 61) 160 = .ok (.iload_n 2, 1) := fdd_d (by decide +kernel)
set_option maxRecDepth 100000 in
theorem xd_8ae2740b : decode (ia_code 61) 161 = .ok (.bipush 41, 2) := fdd_d (by decide +kernel)
set_option maxRecDepth 100000 in
theorem xd_e87d7a23 : decode (ia_code 61) 163 = .ok (.if_icmp .eq 15, 3) := fdd_d (by decide +kernel)
set_option maxRecDepth 100000 in
theorem xd_372d27ef : decode (ia_code 61) 166 = .ok (.iload_n 2, 1) := fdd_d (by decide +kernel)
set_option maxRecDepth 100000 in
theorem xd_17808eca : decode (ia_code 61) 167 = .ok (.bipush 60, 2) := fdd_d (by decide +kernel)
set_option maxRecDepth 100000 in
theorem xd_8dba256e : decode (ia_code 61) 169 = .ok (.if_icmp .lt 13, 3) := fdd_d (by decide +kernel)
set_option maxRecDepth 100000 in
theorem xd_2d9a145b : decode (ia_code 61) 182 = .ok (.iconst 1, 1) := fdd_d (by decide +kernel)
set_option maxRecDepth 100000 in
theorem xd_b654e35b : decode (ia_code 61) 172 = .ok (.iload_n 2, 1) := fdd_d (by decide +kernel)
set_option maxRecDepth 100000 in
theorem xd_ec39191e : decode (ia_code 61) 173 = .ok (.bipush 62, 2) := fdd_d (by decide +kernel)
set_option maxRecDepth 100000 in
theorem xd_50f34471 : decode (ia_code 61) 175 = .ok (.if_icmp .gt 7, 3) := fdd_d (by decide +kernel)
set_option maxRecDepth 100000 in
theorem xd_2892211e : decode (ia_code 61) 121 = .ok (.iload_n 2, 1) := fdd_d (by decide +kernel)
set_option maxRecDepth 100000 in
theorem xd_d11df56c : decode (ia_code 61) 122 = .ok (.bipush 57, 2) := fdd_d (by decide +kernel)
set_option maxRecDepth 100000 in
theorem xd_bb4dc188 : decode (ia_code 61) 124 = .ok (.if_icmp .gt 8, 3) := fdd_d (by decide +kernel)
set_option maxRecDepth 100000 in
theorem xd_e59bd369 : decode (ia_code 61) 127 = .ok (.aload_n 0, 1) := fdd_d (by decide +kernel)
set_option maxRecDepth 100000 in
theorem xl_37018762 : ia_pl (ia_cls 61) 67 = some (1, 187, 0, 0, 722) := by decide +kernel
set_option maxRecDepth 100000 in
theorem xn_1e04ee16 : ia_na 187 = 1 := by decide +kernel
set_option maxRecDepth 100000 in
theorem xc_4a21075b : ia_mc 187 = 0 ∧ ia_ms 187 = 0 := ⟨by decide +kernel, by decide +kernel⟩
set_option maxRecDepth 100000 in
theorem xv_5015f191 : cm_rcv 187 [.inr (.inr (some 2))] = true := by decide +kernel
set_option maxRecDepth 100000 in
theorem xd_d1490142 : decode (ia_code 61) 128 = .ok (.invokevirtual 67, 3) := fdd_d (by decide +kernel)
set_option maxRecDepth 100000 in
theorem xd_775dfd7d : decode (ia_code 61) 131 = .ok (.return_, 1) := fdd_d (by decide +kernel)
set_option maxRecDepth 100000 in
theorem xd_f110ae37 : decode (ia_code 61) 109 = .ok (.iload_n 2, 1) := fdd_d (by decide +kernel)
set_option maxRecDepth 100000 in
theorem xd_bfa3a244 : decode (ia_code 61) 110 = .ok (.bipush 122, 2) := fdd_d (by decide +kernel)
set_option maxRecDepth 100000 in
theorem xd_4ffc0709 : decode (ia_code 61) 112 = .ok (.if_icmp .le 15, 3) := fdd_d (by decide +kernel)
set_option maxRecDepth 100000 in
theorem xd_8db73dab : decode (ia_code 61) 74 = .ok (.aload_n 0, 1) := fdd_d (by decide +kernel)
set_option maxRecDepth 100000 in
theorem xd_71a72da2 : decode (ia_code 61) 75 = .ok (.iload_n 1, 1) := fdd_d (by decide +kernel)
set_option maxRecDepth 100000 in
theorem xd_e9870673 : decode (ia_code 61) 76 = .ok (.putfield 58, 3) := fdd_d (by decide +kernel)
set_option maxRecDepth 100000 in
theorem xd_162135ca : decode (ia_code 61) 79 = .ok (.aload_n 0, 1) := fdd_d (by decide +kernel)
set_option maxRecDepth 100000 in
theorem xd_6da028be : decode (ia_code 61) 80 = .ok (.iconst 0, 1) := fdd_d (by decide +kernel)
set_option maxRecDepth 100000 in
theorem xd_e95933ee : decode (ia_code 61) 81 = .ok (.putfield 64, 3) := fdd_d (by decide +kernel)
set_option maxRecDepth 100000 in
theorem xd_c30a14ea : decode (ia_code 61) 84 = .ok (.return_, 1) := fdd_d (by decide +kernel)
set_option maxRecDepth 100000 in
theorem xd_6edc12bd : decode (ia_code 61) 0 = .ok (.aload_n 0, 1) := fdd_d (by decide +kernel)
set_option maxRecDepth 100000 in
theorem xd_39cbbd51 : decode (ia_code 61) 1 = .ok (.getfield 39, 3) := fdd_d (by decide +kernel)
set_option maxRecDepth 100000 in
theorem xf_bcc7202d : wk_gf 61 39 2 2 0 = true := by decide +kernel
set_option maxRecDepth 100000 in
theorem xd_6e80b32e : decode (ia_code 61) 4 = .ok (.aload_n 0, 1) := fdd_d (by decide +kernel)
set_option maxRecDepth 100000 in
theorem xd_95c3dfb3 : decode (ia_code 61) 5 = .ok (.getfield 43, 3) := fdd_d (by decide +kernel)
set_option maxRecDepth 100000 in
theorem xf_1a339e92 : wk_gf 61 43 2 3 0 = true := by decide +kernel
set_option maxRecDepth 100000 in
theorem xd_d5c8fb28 : decode (ia_code 61) 8 = .ok (.invokestatic 33, 3) := fdd_d (by decide +kernel)
set_option maxRecDepth 100000 in
theorem xl_1e489d69 : ia_pl (ia_cls 61) 33 = some (7, 0, 0, 0, 715) := by decide +kernel
set_option maxRecDepth 100000 in
theorem xd_5f607b65 : decode (ia_code 61) 11 = .ok (.istore_n 1, 1) := fdd_d (by decide +kernel)
/-! ## the class's reader: next (wip/p4/gen9vc.py) -/
theorem tx_go_ge {B : Int → Bool} {T : Nat → Int} {n : Nat} : ∀ f p q, p ≤ q → (q ≤ n ∨ q = p) → n - p ≤ f → (∀ j, p ≤ j → j < q → B (T j) = true) → q ≤ tx_go B T n f p := by
  intro f
  induction f with
  | zero =>
    intro p q h1 h2 h3 h4
    show q ≤ p
    omega
  | succ f ih =>
    intro p q h1 h2 h3 h4
    show q ≤ (if p < n ∧ B (T p) = true then tx_go B T n f (p + 1) else p)
    rcases Nat.lt_or_ge p q with h | h
    · rw [if_pos ⟨by omega, h4 p (Nat.le_refl _) h⟩]
      exact ih (p + 1) q h (by omega) (by omega) (fun j a b => h4 j (by omega) b)
    · split
      · exact Nat.le_trans (by omega) (ih (p + 1) (p + 1) (Nat.le_refl _) (.inr rfl) (by omega) (fun j a b => absurd b (by omega)))
      · omega
theorem tx_sk_ge {T : Nat → Int} {n p q : Nat} (h1 : p ≤ q) (h2 : q ≤ n ∨ q = p) (h4 : ∀ j, p ≤ j → j < q → tx_Bl (T j)) : q ≤ tx_sk T n p := tx_go_ge _ _ _ h1 h2 (Nat.le_refl _) (fun j a b => decide_eq_true (h4 j a b))
theorem cn_skip {w0 : cm_W} {T : Nat → Int} {n m p st : Nat} {z : Int32} (hT : rd_T w0 T n m) (hz : z.toInt = (st : Int)) (hsn : st ≤ n) (Q : cm_O → Prop) (hk : ∀ (w : cm_W) (q : Nat), ((w.1 2 4).toInt = (q : Int) ∧ rd_S w0 w ∧ p ≤ q ∧ (q ≤ st ∨ q = p) ∧ (∀ j, p ≤ j → j < q → tx_Bl (T j))) → (st ≤ q ∨ ¬ tx_Bl (T q)) → cm_X (cm_C 1) 61 61 [some (.inr (.inr (some 2))), some (.inl z), none] [] w Q) : ∀ (f q : Nat) (w : cm_W), st ≤ f + q → ((w.1 2 4).toInt = (q : Int) ∧ rd_S w0 w ∧ p ≤ q ∧ (q ≤ st ∨ q = p) ∧ (∀ j, p ≤ j → j < q → tx_Bl (T j))) → cm_X (cm_C 1) 61 12 [some (.inr (.inr (some 2))), some (.inl z), none] [] w Q := by
  have hn9 : n ≤ 940 := hT.2.2.2.1
  intro f
  induction f with
  | zero =>
    intro q w hf hI
    obtain ⟨hat, hS, hpq, hqs, hbl⟩ := hI
    refine wk_aload_n xd_d0401d81 rfl ?_
    refine wk_getI xf_7c4ceb86 xd_45d2c0ca ?_
    refine wk_iload_n xd_b77f46cf rfl ?_
    refine wk_icmp xd_a8d747f7 (t := 61) rfl (fun h17_0 => ?_) (fun h17_0 => ?_)
    · have h17_0 := aw_ge_t (a := ((q : Int) : Int)) (b := ((st : Int) : Int)) (show ((w.1 2 4)).toInt = ((q : Int) : Int) from hat) hz h17_0
      exact hk w q ⟨hat, hS, hpq, hqs, hbl⟩ (by first | (left; omega) | (right; intro h; omega))
    · have h17_0 := aw_ge_f (a := ((q : Int) : Int)) (b := ((st : Int) : Int)) (show ((w.1 2 4)).toInt = ((q : Int) : Int) from hat) hz h17_0
      exfalso
      omega
  | succ f ih =>
    intro q w hf hI
    obtain ⟨hat, hS, hpq, hqs, hbl⟩ := hI
    refine wk_aload_n xd_d0401d81 rfl ?_
    refine wk_getI xf_7c4ceb86 xd_45d2c0ca ?_
    refine wk_iload_n xd_b77f46cf rfl ?_
    refine wk_icmp xd_a8d747f7 (t := 61) rfl (fun h17_1 => ?_) (fun h17_1 => ?_)
    · have h17_1 := aw_ge_t (a := ((q : Int) : Int)) (b := ((st : Int) : Int)) (show ((w.1 2 4)).toInt = ((q : Int) : Int) from hat) hz h17_1
      exact hk w q ⟨hat, hS, hpq, hqs, hbl⟩ (by first | (left; omega) | (right; intro h; omega))
    · have h17_1 := aw_ge_f (a := ((q : Int) : Int)) (b := ((st : Int) : Int)) (show ((w.1 2 4)).toInt = ((q : Int) : Int) from hat) hz h17_1
      have hc0 : (w.1 1 q).toInt = T q := by rw [(hS 1 q (by omega)).1]; exact hT.1 q (by omega)
      refine wk_aload_n xd_65c86740 rfl ?_
      refine wk_getR xf_196043e5 xd_308ee00c ?_
      refine wk_aload_n xd_6594c6d3 rfl ?_
      refine wk_getI xf_7c4ceb86 xd_dc5e4194 ?_
      refine aw_iaload (i := q) xf_97ae57c2 (show ((w.1 2 4)).toInt = ((q : Int) : Int) from hat) (by omega) (by omega) xd_0a75e9db ?_
      refine wk_bipush xd_4f12cf9d ?_
      refine wk_icmp xd_aa0e07c5 (t := 48) rfl (fun h31_2 => ?_) (fun h31_2 => ?_)
      · have h31_2 := aw_eq_t (a := ((T q) : Int)) (b := (32 : Int)) (show ((w.1 1 q)).toInt = ((T q) : Int) from hc0) (show (((Int8.ofInt 32).toInt32)).toInt = 32 from by decide) h31_2
        refine wk_aload_n xd_d54c7636 rfl ?_
        refine wk_dup_r xd_9b00c613 ?_
        refine wk_getI xf_7c4ceb86 xd_5aabe047 ?_
        refine wk_iconst xd_f22ea42f ?_
        refine aw_iadd (a := ((q : Int) : Int)) (b := (1 : Int)) (e := ((q : Int) + 1 : Int)) xd_1da569e5 (show ((w.1 2 4)).toInt = ((q : Int) : Int) from hat) (show ((Int32.ofInt 1)).toInt = 1 from by decide) (by omega) (by omega) (by omega) (fun v4_ p4_ => ?_)
        refine wk_putI xf_5e4f7f32 (fun ci => wk_fitI ci) xd_bd4c968b ?_
        refine wk_goto xd_5e16efd0 (t := 12) rfl ?_
        refine ih (q + 1) _ (by omega) ⟨by rw [hs_u1_self]; omega, rd_S_u1 hS (by omega) (by omega), by omega, by omega, fun j a b => ?_⟩
        by_cases e : j = q
        · rw [e]
          first | (left; omega) | (right; omega)
        · exact hbl j a (by omega)
      · have h31_2 := aw_eq_f (a := ((T q) : Int)) (b := (32 : Int)) (show ((w.1 1 q)).toInt = ((T q) : Int) from hc0) (show (((Int8.ofInt 32).toInt32)).toInt = 32 from by decide) h31_2
        refine wk_aload_n xd_e4b1a3f4 rfl ?_
        refine wk_getR xf_196043e5 xd_2c2e0c60 ?_
        refine wk_aload_n xd_e4544141 rfl ?_
        refine wk_getI xf_7c4ceb86 xd_ecf53e4f ?_
        refine aw_iaload (i := q) xf_97ae57c2 (show ((w.1 2 4)).toInt = ((q : Int) : Int) from hat) (by omega) (by omega) xd_ab5d4c23 ?_
        refine wk_bipush xd_2508ff69 ?_
        refine wk_icmp xd_197b72b0 (t := 61) rfl (fun h45_4 => ?_) (fun h45_4 => ?_)
        · have h45_4 := aw_ne_t (a := ((T q) : Int)) (b := (10 : Int)) (show ((w.1 1 q)).toInt = ((T q) : Int) from hc0) (show (((Int8.ofInt 10).toInt32)).toInt = 10 from by decide) h45_4
          exact hk w q ⟨hat, hS, hpq, hqs, hbl⟩ (by first | (left; omega) | (right; intro h; omega))
        · have h45_4 := aw_ne_f (a := ((T q) : Int)) (b := (10 : Int)) (show ((w.1 1 q)).toInt = ((T q) : Int) from hc0) (show (((Int8.ofInt 10).toInt32)).toInt = 10 from by decide) h45_4
          refine wk_aload_n xd_d54c7636 rfl ?_
          refine wk_dup_r xd_9b00c613 ?_
          refine wk_getI xf_7c4ceb86 xd_5aabe047 ?_
          refine wk_iconst xd_f22ea42f ?_
          refine aw_iadd (a := ((q : Int) : Int)) (b := (1 : Int)) (e := ((q : Int) + 1 : Int)) xd_1da569e5 (show ((w.1 2 4)).toInt = ((q : Int) : Int) from hat) (show ((Int32.ofInt 1)).toInt = 1 from by decide) (by omega) (by omega) (by omega) (fun v6_ p6_ => ?_)
          refine wk_putI xf_5e4f7f32 (fun ci => wk_fitI ci) xd_bd4c968b ?_
          refine wk_goto xd_5e16efd0 (t := 12) rfl ?_
          refine ih (q + 1) _ (by omega) ⟨by rw [hs_u1_self]; omega, rd_S_u1 hS (by omega) (by omega), by omega, by omega, fun j a b => ?_⟩
          by_cases e : j = q
          · rw [e]
            first | (left; omega) | (right; omega)
          · exact hbl j a (by omega)
theorem cn_ok {w : cm_W} {T : Nat → Int} {n m p : Nat} (hT : rd_T w T n m) (hat0 : (w.1 2 4).toInt = (p : Int)) (hp : p ≤ n) : ∃ w', cm_C 2 61 [.inr (.inr (some 2))] w (none, w') ∧ rd_S w w' ∧ rd_C w' (tx_tk T n m p) := by
  have hn9 : n ≤ 940 := hT.2.2.2.1
  have hm9 : m ≤ 940 := hT.2.2.2.2.1
  have h : ∃ o, cm_C (1 + 1) 61 [.inr (.inr (some 2))] w o ∧ (fun o : cm_O => ∃ w', o = (none, w') ∧ rd_S w w' ∧ rd_C w' (tx_tk T n m p)) o := by
    refine wk_entry (by rw [xm_d99c1d45]; exact Nat.le_of_ble_eq_true rfl) ?_
    rw [show cm_ent 61 [.inr (.inr (some 2))] = [some (.inr (.inr (some 2))), none, none] from by unfold cm_ent; rw [xm_d99c1d45]; rfl]
    refine wk_aload_n xd_6edc12bd rfl ?_
    refine wk_getI xf_bcc7202d xd_39cbbd51 ?_
    refine wk_aload_n xd_6e80b32e rfl ?_
    refine wk_getI xf_1a339e92 xd_95c3dfb3 ?_
    refine aw_min (a := ((n : Int) : Int)) (b := ((m : Int) : Int)) xl_1e489d69 rfl xd_d5c8fb28 (show ((w.1 2 2)).toInt = ((n : Int) : Int) from hT.2.1) (show ((w.1 2 3)).toInt = ((m : Int) : Int) from hT.2.2.1) (fun v1_ p1_ => ?_)
    refine wk_istore_n xd_5f607b65 (by rw [xm_d99c1d45]; rfl) rfl ?_
    obtain ⟨st, hz, hst⟩ : ∃ st : Nat, v1_.toInt = (st : Int) ∧ ((st = n ∧ n ≤ m) ∨ (st = m ∧ m < n)) := by
      rcases p1_ with ⟨a1, a2⟩ | ⟨a1, a2⟩
      · exact ⟨n, a1, .inl ⟨rfl, by omega⟩⟩
      · exact ⟨m, a1, .inr ⟨rfl, by omega⟩⟩
    refine cn_skip (p := p) hT hz (by omega) _ (fun w9 q hI hE => ?_) st p w (by omega) ⟨hat0, rd_S_rf w, Nat.le_refl p, .inr rfl, fun j a b => absurd b (by omega)⟩
    obtain ⟨hat, hS, hpq, hqs, hbl⟩ := hI
    refine wk_aload_n xd_97bd13cb rfl ?_
    refine wk_iconst xd_5bd4d42c ?_
    refine wk_putI xf_893884ed (fun ci => wk_fitI ci) xd_db286ace ?_
    refine wk_aload_n xd_e1048b65 rfl ?_
    refine wk_getI xf_7c4ceb86 xd_66acf117 ?_
    refine wk_iload_n xd_ea8866e5 rfl ?_
    refine wk_icmp xd_5e83a7fb (t := 85) rfl (fun h71_0 => ?_) (fun h71_0 => ?_)
    · have h71_0 := aw_lt_t (a := ((q : Int) : Int)) (b := ((st : Int) : Int)) (show (((cm_u1 w9 2 8 (Int32.ofInt (-1))).1 2 4)).toInt = ((q : Int) : Int) from hat) hz h71_0
      have hnb : ¬ tx_Bl (T q) := by
        rcases hE with h | h
        · omega
        · exact h
      have hs : tx_sk T n p = q := tx_sk_eq hpq (.inl (by omega)) hbl (.inr hnb)
      have hc0 : (w9.1 1 q).toInt = T q := by rw [(hS 1 q (by omega)).1]; exact hT.1 q (by omega)
      refine wk_aload_n xd_f5d1dcb6 rfl ?_
      refine wk_aload_n xd_8334e58b rfl ?_
      refine wk_getI xf_7c4ceb86 xd_0c5b011a ?_
      refine wk_putI xf_28da2167 (fun ci => wk_fitI ci) xd_e8ab9ad8 ?_
      refine wk_aload_n xd_993ecbeb rfl ?_
      refine wk_getR xf_196043e5 xd_c9c6fabd ?_
      refine wk_aload_n xd_99626a78 rfl ?_
      refine wk_getI xf_7c4ceb86 xd_091dc892 ?_
      refine aw_iaload (i := q) xf_97ae57c2 (show (((cm_u1 (cm_u1 w9 2 8 (Int32.ofInt (-1))) 2 6 ((cm_u1 w9 2 8 (Int32.ofInt (-1))).1 2 4)).1 2 4)).toInt = ((q : Int) : Int) from hat) (by omega) (by omega) xd_3f3cfe24 ?_
      refine wk_istore_n xd_967fc43c (by rw [xm_d99c1d45]; rfl) rfl ?_
      refine wk_iload_n xd_1c3f3ef8 rfl ?_
      refine wk_bipush xd_922e8b62 ?_
      refine wk_icmp xd_053438d6 (t := 115) rfl (fun h106_1 => ?_) (fun h106_1 => ?_)
      · have h106_1 := aw_lt_t (a := ((T q) : Int)) (b := (97 : Int)) (show (((cm_u1 (cm_u1 w9 2 8 (Int32.ofInt (-1))) 2 6 ((cm_u1 w9 2 8 (Int32.ofInt (-1))).1 2 4)).1 1 q)).toInt = ((T q) : Int) from hc0) (show (((Int8.ofInt 97).toInt32)).toInt = 97 from by decide) h106_1
        refine wk_iload_n xd_70d029a5 rfl ?_
        refine wk_bipush xd_c053b9a3 ?_
        refine wk_icmp xd_cc490dde (t := 132) rfl (fun h118_2 => ?_) (fun h118_2 => ?_)
        · have h118_2 := aw_lt_t (a := ((T q) : Int)) (b := (48 : Int)) (show (((cm_u1 (cm_u1 w9 2 8 (Int32.ofInt (-1))) 2 6 ((cm_u1 w9 2 8 (Int32.ofInt (-1))).1 2 4)).1 1 q)).toInt = ((T q) : Int) from hc0) (show (((Int8.ofInt 48).toInt32)).toInt = 48 from by decide) h118_2
          refine wk_aload_n xd_ff91fd09 rfl ?_
          refine wk_dup_r xd_1781b835 ?_
          refine wk_getI xf_7c4ceb86 xd_d8d2e388 ?_
          refine wk_iconst xd_104f9980 ?_
          refine aw_iadd (a := ((q : Int) : Int)) (b := (1 : Int)) (e := ((q : Int) + 1 : Int)) xd_16ba51bb (show (((cm_u1 (cm_u1 w9 2 8 (Int32.ofInt (-1))) 2 6 ((cm_u1 w9 2 8 (Int32.ofInt (-1))).1 2 4)).1 2 4)).toInt = ((q : Int) : Int) from hat) (show ((Int32.ofInt 1)).toInt = 1 from by decide) (by omega) (by omega) (by omega) (fun v4_ p4_ => ?_)
          refine wk_putI xf_5e4f7f32 (fun ci => wk_fitI ci) xd_133e06f3 ?_
          refine wk_aload_n xd_ce89ca7e rfl ?_
          refine wk_iload_n xd_7539a0a7 rfl ?_
          refine wk_putI xf_b4d7841d (fun ci => wk_fitI ci) xd_b014b399 ?_
          refine wk_aload_n xd_55a68139 rfl ?_
          refine wk_iload_n xd_0365dabc rfl ?_
          refine wk_bipush xd_a84c6346 ?_
          refine wk_icmp xd_b24acabb (t := 178) rfl (fun h151_4 => ?_) (fun h151_4 => ?_)
          · have h151_4 := aw_eq_t (a := ((T q) : Int)) (b := (59 : Int)) (show (((cm_u1 (cm_u1 w9 2 8 (Int32.ofInt (-1))) 2 6 ((cm_u1 w9 2 8 (Int32.ofInt (-1))).1 2 4)).1 1 q)).toInt = ((T q) : Int) from hc0) (show (((Int8.ofInt 59).toInt32)).toInt = 59 from by decide) h151_4
            refine wk_iconst xd_0469af23 ?_
            refine wk_goto xd_7c741bf1 (t := 183) rfl ?_
            refine wk_putI xf_f8656130 (fun ci => wk_fitI ci) xd_3f258136 ?_
            refine wk_return xd_9e81f065 xr_1524ee99 ⟨_, rfl, (rd_S_u1 (rd_S_u1 (rd_S_u1 (rd_S_u1 (rd_S_u1 hS (by omega) (by omega)) (by omega) (by omega)) (by omega) (by omega)) (by omega) (by omega)) (by omega) (by omega)), ?_⟩
            have hnan : ¬ (tx_Sm (T q) ∨ tx_Dg (T q)) := by
              intro h
              omega
            rw [tx_tk_sign hs (by omega) (by omega) hnan, if_pos (by omega)]
            exact ⟨((show (((cm_u1 (cm_u1 (cm_u1 (cm_u1 (cm_u1 w9 2 8 (Int32.ofInt (-1))) 2 6 ((cm_u1 w9 2 8 (Int32.ofInt (-1))).1 2 4)) 2 4 v4_) 2 10 ((cm_u1 (cm_u1 w9 2 8 (Int32.ofInt (-1))) 2 6 ((cm_u1 w9 2 8 (Int32.ofInt (-1))).1 2 4)).1 1 q)) 2 5 (Int32.ofInt 4)).1 2 6)).toInt = ((q : Int) : Int) from (show (((cm_u1 w9 2 8 (Int32.ofInt (-1))).1 2 4)).toInt = ((q : Int) : Int) from hat))).trans (by first | omega | rfl | (dsimp only; omega)), .inr (.inr (.inr (.inl ⟨rfl, ((show (((cm_u1 (cm_u1 (cm_u1 (cm_u1 (cm_u1 w9 2 8 (Int32.ofInt (-1))) 2 6 ((cm_u1 w9 2 8 (Int32.ofInt (-1))).1 2 4)) 2 4 v4_) 2 10 ((cm_u1 (cm_u1 w9 2 8 (Int32.ofInt (-1))) 2 6 ((cm_u1 w9 2 8 (Int32.ofInt (-1))).1 2 4)).1 1 q)) 2 5 (Int32.ofInt 4)).1 2 5)).toInt = (4 : Int) from (show ((Int32.ofInt 4)).toInt = 4 from by decide))).trans (by omega), ((show (((cm_u1 (cm_u1 (cm_u1 (cm_u1 (cm_u1 w9 2 8 (Int32.ofInt (-1))) 2 6 ((cm_u1 w9 2 8 (Int32.ofInt (-1))).1 2 4)) 2 4 v4_) 2 10 ((cm_u1 (cm_u1 w9 2 8 (Int32.ofInt (-1))) 2 6 ((cm_u1 w9 2 8 (Int32.ofInt (-1))).1 2 4)).1 1 q)) 2 5 (Int32.ofInt 4)).1 2 4)).toInt = ((q : Int) + 1 : Int) from p4_)).trans (by first | omega | rfl | (dsimp only; omega)), ((show (((cm_u1 (cm_u1 (cm_u1 (cm_u1 (cm_u1 w9 2 8 (Int32.ofInt (-1))) 2 6 ((cm_u1 w9 2 8 (Int32.ofInt (-1))).1 2 4)) 2 4 v4_) 2 10 ((cm_u1 (cm_u1 w9 2 8 (Int32.ofInt (-1))) 2 6 ((cm_u1 w9 2 8 (Int32.ofInt (-1))).1 2 4)).1 1 q)) 2 5 (Int32.ofInt 4)).1 2 8)).toInt = ((-1) : Int) from (show ((Int32.ofInt (-1))).toInt = (-1) from by decide))).trans (by omega), ((show (((cm_u1 (cm_u1 (cm_u1 (cm_u1 (cm_u1 w9 2 8 (Int32.ofInt (-1))) 2 6 ((cm_u1 w9 2 8 (Int32.ofInt (-1))).1 2 4)) 2 4 v4_) 2 10 ((cm_u1 (cm_u1 w9 2 8 (Int32.ofInt (-1))) 2 6 ((cm_u1 w9 2 8 (Int32.ofInt (-1))).1 2 4)).1 1 q)) 2 5 (Int32.ofInt 4)).1 2 10)).toInt = ((T q) : Int) from (show (((cm_u1 (cm_u1 w9 2 8 (Int32.ofInt (-1))) 2 6 ((cm_u1 w9 2 8 (Int32.ofInt (-1))).1 2 4)).1 1 q)).toInt = ((T q) : Int) from hc0))).trans (by first | omega | rfl | (dsimp only; omega))⟩)))⟩
          · have h151_4 := aw_eq_f (a := ((T q) : Int)) (b := (59 : Int)) (show (((cm_u1 (cm_u1 w9 2 8 (Int32.ofInt (-1))) 2 6 ((cm_u1 w9 2 8 (Int32.ofInt (-1))).1 2 4)).1 1 q)).toInt = ((T q) : Int) from hc0) (show (((Int8.ofInt 59).toInt32)).toInt = 59 from by decide) h151_4
            refine wk_iload_n xd_82a55d2e rfl ?_
            refine wk_bipush xd_efc05500 ?_
            refine wk_icmp xd_38b63155 (t := 178) rfl (fun h157_5 => ?_) (fun h157_5 => ?_)
            · have h157_5 := aw_eq_t (a := ((T q) : Int)) (b := (40 : Int)) (show (((cm_u1 (cm_u1 w9 2 8 (Int32.ofInt (-1))) 2 6 ((cm_u1 w9 2 8 (Int32.ofInt (-1))).1 2 4)).1 1 q)).toInt = ((T q) : Int) from hc0) (show (((Int8.ofInt 40).toInt32)).toInt = 40 from by decide) h157_5
              refine wk_iconst xd_0469af23 ?_
              refine wk_goto xd_7c741bf1 (t := 183) rfl ?_
              refine wk_putI xf_f8656130 (fun ci => wk_fitI ci) xd_3f258136 ?_
              refine wk_return xd_9e81f065 xr_1524ee99 ⟨_, rfl, (rd_S_u1 (rd_S_u1 (rd_S_u1 (rd_S_u1 (rd_S_u1 hS (by omega) (by omega)) (by omega) (by omega)) (by omega) (by omega)) (by omega) (by omega)) (by omega) (by omega)), ?_⟩
              have hnan : ¬ (tx_Sm (T q) ∨ tx_Dg (T q)) := by
                intro h
                omega
              rw [tx_tk_sign hs (by omega) (by omega) hnan, if_pos (by omega)]
              exact ⟨((show (((cm_u1 (cm_u1 (cm_u1 (cm_u1 (cm_u1 w9 2 8 (Int32.ofInt (-1))) 2 6 ((cm_u1 w9 2 8 (Int32.ofInt (-1))).1 2 4)) 2 4 v4_) 2 10 ((cm_u1 (cm_u1 w9 2 8 (Int32.ofInt (-1))) 2 6 ((cm_u1 w9 2 8 (Int32.ofInt (-1))).1 2 4)).1 1 q)) 2 5 (Int32.ofInt 4)).1 2 6)).toInt = ((q : Int) : Int) from (show (((cm_u1 w9 2 8 (Int32.ofInt (-1))).1 2 4)).toInt = ((q : Int) : Int) from hat))).trans (by first | omega | rfl | (dsimp only; omega)), .inr (.inr (.inr (.inl ⟨rfl, ((show (((cm_u1 (cm_u1 (cm_u1 (cm_u1 (cm_u1 w9 2 8 (Int32.ofInt (-1))) 2 6 ((cm_u1 w9 2 8 (Int32.ofInt (-1))).1 2 4)) 2 4 v4_) 2 10 ((cm_u1 (cm_u1 w9 2 8 (Int32.ofInt (-1))) 2 6 ((cm_u1 w9 2 8 (Int32.ofInt (-1))).1 2 4)).1 1 q)) 2 5 (Int32.ofInt 4)).1 2 5)).toInt = (4 : Int) from (show ((Int32.ofInt 4)).toInt = 4 from by decide))).trans (by omega), ((show (((cm_u1 (cm_u1 (cm_u1 (cm_u1 (cm_u1 w9 2 8 (Int32.ofInt (-1))) 2 6 ((cm_u1 w9 2 8 (Int32.ofInt (-1))).1 2 4)) 2 4 v4_) 2 10 ((cm_u1 (cm_u1 w9 2 8 (Int32.ofInt (-1))) 2 6 ((cm_u1 w9 2 8 (Int32.ofInt (-1))).1 2 4)).1 1 q)) 2 5 (Int32.ofInt 4)).1 2 4)).toInt = ((q : Int) + 1 : Int) from p4_)).trans (by first | omega | rfl | (dsimp only; omega)), ((show (((cm_u1 (cm_u1 (cm_u1 (cm_u1 (cm_u1 w9 2 8 (Int32.ofInt (-1))) 2 6 ((cm_u1 w9 2 8 (Int32.ofInt (-1))).1 2 4)) 2 4 v4_) 2 10 ((cm_u1 (cm_u1 w9 2 8 (Int32.ofInt (-1))) 2 6 ((cm_u1 w9 2 8 (Int32.ofInt (-1))).1 2 4)).1 1 q)) 2 5 (Int32.ofInt 4)).1 2 8)).toInt = ((-1) : Int) from (show ((Int32.ofInt (-1))).toInt = (-1) from by decide))).trans (by omega), ((show (((cm_u1 (cm_u1 (cm_u1 (cm_u1 (cm_u1 w9 2 8 (Int32.ofInt (-1))) 2 6 ((cm_u1 w9 2 8 (Int32.ofInt (-1))).1 2 4)) 2 4 v4_) 2 10 ((cm_u1 (cm_u1 w9 2 8 (Int32.ofInt (-1))) 2 6 ((cm_u1 w9 2 8 (Int32.ofInt (-1))).1 2 4)).1 1 q)) 2 5 (Int32.ofInt 4)).1 2 10)).toInt = ((T q) : Int) from (show (((cm_u1 (cm_u1 w9 2 8 (Int32.ofInt (-1))) 2 6 ((cm_u1 w9 2 8 (Int32.ofInt (-1))).1 2 4)).1 1 q)).toInt = ((T q) : Int) from hc0))).trans (by first | omega | rfl | (dsimp only; omega))⟩)))⟩
            · have h157_5 := aw_eq_f (a := ((T q) : Int)) (b := (40 : Int)) (show (((cm_u1 (cm_u1 w9 2 8 (Int32.ofInt (-1))) 2 6 ((cm_u1 w9 2 8 (Int32.ofInt (-1))).1 2 4)).1 1 q)).toInt = ((T q) : Int) from hc0) (show (((Int8.ofInt 40).toInt32)).toInt = 40 from by decide) h157_5
              refine wk_iload_n xd_dae75595 rfl ?_
              refine wk_bipush xd_8ae2740b ?_
              refine wk_icmp xd_e87d7a23 (t := 178) rfl (fun h163_6 => ?_) (fun h163_6 => ?_)
              · have h163_6 := aw_eq_t (a := ((T q) : Int)) (b := (41 : Int)) (show (((cm_u1 (cm_u1 w9 2 8 (Int32.ofInt (-1))) 2 6 ((cm_u1 w9 2 8 (Int32.ofInt (-1))).1 2 4)).1 1 q)).toInt = ((T q) : Int) from hc0) (show (((Int8.ofInt 41).toInt32)).toInt = 41 from by decide) h163_6
                refine wk_iconst xd_0469af23 ?_
                refine wk_goto xd_7c741bf1 (t := 183) rfl ?_
                refine wk_putI xf_f8656130 (fun ci => wk_fitI ci) xd_3f258136 ?_
                refine wk_return xd_9e81f065 xr_1524ee99 ⟨_, rfl, (rd_S_u1 (rd_S_u1 (rd_S_u1 (rd_S_u1 (rd_S_u1 hS (by omega) (by omega)) (by omega) (by omega)) (by omega) (by omega)) (by omega) (by omega)) (by omega) (by omega)), ?_⟩
                have hnan : ¬ (tx_Sm (T q) ∨ tx_Dg (T q)) := by
                  intro h
                  omega
                rw [tx_tk_sign hs (by omega) (by omega) hnan, if_pos (by omega)]
                exact ⟨((show (((cm_u1 (cm_u1 (cm_u1 (cm_u1 (cm_u1 w9 2 8 (Int32.ofInt (-1))) 2 6 ((cm_u1 w9 2 8 (Int32.ofInt (-1))).1 2 4)) 2 4 v4_) 2 10 ((cm_u1 (cm_u1 w9 2 8 (Int32.ofInt (-1))) 2 6 ((cm_u1 w9 2 8 (Int32.ofInt (-1))).1 2 4)).1 1 q)) 2 5 (Int32.ofInt 4)).1 2 6)).toInt = ((q : Int) : Int) from (show (((cm_u1 w9 2 8 (Int32.ofInt (-1))).1 2 4)).toInt = ((q : Int) : Int) from hat))).trans (by first | omega | rfl | (dsimp only; omega)), .inr (.inr (.inr (.inl ⟨rfl, ((show (((cm_u1 (cm_u1 (cm_u1 (cm_u1 (cm_u1 w9 2 8 (Int32.ofInt (-1))) 2 6 ((cm_u1 w9 2 8 (Int32.ofInt (-1))).1 2 4)) 2 4 v4_) 2 10 ((cm_u1 (cm_u1 w9 2 8 (Int32.ofInt (-1))) 2 6 ((cm_u1 w9 2 8 (Int32.ofInt (-1))).1 2 4)).1 1 q)) 2 5 (Int32.ofInt 4)).1 2 5)).toInt = (4 : Int) from (show ((Int32.ofInt 4)).toInt = 4 from by decide))).trans (by omega), ((show (((cm_u1 (cm_u1 (cm_u1 (cm_u1 (cm_u1 w9 2 8 (Int32.ofInt (-1))) 2 6 ((cm_u1 w9 2 8 (Int32.ofInt (-1))).1 2 4)) 2 4 v4_) 2 10 ((cm_u1 (cm_u1 w9 2 8 (Int32.ofInt (-1))) 2 6 ((cm_u1 w9 2 8 (Int32.ofInt (-1))).1 2 4)).1 1 q)) 2 5 (Int32.ofInt 4)).1 2 4)).toInt = ((q : Int) + 1 : Int) from p4_)).trans (by first | omega | rfl | (dsimp only; omega)), ((show (((cm_u1 (cm_u1 (cm_u1 (cm_u1 (cm_u1 w9 2 8 (Int32.ofInt (-1))) 2 6 ((cm_u1 w9 2 8 (Int32.ofInt (-1))).1 2 4)) 2 4 v4_) 2 10 ((cm_u1 (cm_u1 w9 2 8 (Int32.ofInt (-1))) 2 6 ((cm_u1 w9 2 8 (Int32.ofInt (-1))).1 2 4)).1 1 q)) 2 5 (Int32.ofInt 4)).1 2 8)).toInt = ((-1) : Int) from (show ((Int32.ofInt (-1))).toInt = (-1) from by decide))).trans (by omega), ((show (((cm_u1 (cm_u1 (cm_u1 (cm_u1 (cm_u1 w9 2 8 (Int32.ofInt (-1))) 2 6 ((cm_u1 w9 2 8 (Int32.ofInt (-1))).1 2 4)) 2 4 v4_) 2 10 ((cm_u1 (cm_u1 w9 2 8 (Int32.ofInt (-1))) 2 6 ((cm_u1 w9 2 8 (Int32.ofInt (-1))).1 2 4)).1 1 q)) 2 5 (Int32.ofInt 4)).1 2 10)).toInt = ((T q) : Int) from (show (((cm_u1 (cm_u1 w9 2 8 (Int32.ofInt (-1))) 2 6 ((cm_u1 w9 2 8 (Int32.ofInt (-1))).1 2 4)).1 1 q)).toInt = ((T q) : Int) from hc0))).trans (by first | omega | rfl | (dsimp only; omega))⟩)))⟩
              · have h163_6 := aw_eq_f (a := ((T q) : Int)) (b := (41 : Int)) (show (((cm_u1 (cm_u1 w9 2 8 (Int32.ofInt (-1))) 2 6 ((cm_u1 w9 2 8 (Int32.ofInt (-1))).1 2 4)).1 1 q)).toInt = ((T q) : Int) from hc0) (show (((Int8.ofInt 41).toInt32)).toInt = 41 from by decide) h163_6
                refine wk_iload_n xd_372d27ef rfl ?_
                refine wk_bipush xd_17808eca ?_
                refine wk_icmp xd_8dba256e (t := 182) rfl (fun h169_7 => ?_) (fun h169_7 => ?_)
                · have h169_7 := aw_lt_t (a := ((T q) : Int)) (b := (60 : Int)) (show (((cm_u1 (cm_u1 w9 2 8 (Int32.ofInt (-1))) 2 6 ((cm_u1 w9 2 8 (Int32.ofInt (-1))).1 2 4)).1 1 q)).toInt = ((T q) : Int) from hc0) (show (((Int8.ofInt 60).toInt32)).toInt = 60 from by decide) h169_7
                  refine wk_iconst xd_2d9a145b ?_
                  refine wk_putI xf_f8656130 (fun ci => wk_fitI ci) xd_3f258136 ?_
                  refine wk_return xd_9e81f065 xr_1524ee99 ⟨_, rfl, (rd_S_u1 (rd_S_u1 (rd_S_u1 (rd_S_u1 (rd_S_u1 hS (by omega) (by omega)) (by omega) (by omega)) (by omega) (by omega)) (by omega) (by omega)) (by omega) (by omega)), ?_⟩
                  have hnan : ¬ (tx_Sm (T q) ∨ tx_Dg (T q)) := by
                    intro h
                    omega
                  rw [tx_tk_sign hs (by omega) (by omega) hnan, if_neg (by omega)]
                  exact ⟨((show (((cm_u1 (cm_u1 (cm_u1 (cm_u1 (cm_u1 w9 2 8 (Int32.ofInt (-1))) 2 6 ((cm_u1 w9 2 8 (Int32.ofInt (-1))).1 2 4)) 2 4 v4_) 2 10 ((cm_u1 (cm_u1 w9 2 8 (Int32.ofInt (-1))) 2 6 ((cm_u1 w9 2 8 (Int32.ofInt (-1))).1 2 4)).1 1 q)) 2 5 (Int32.ofInt 1)).1 2 6)).toInt = ((q : Int) : Int) from (show (((cm_u1 w9 2 8 (Int32.ofInt (-1))).1 2 4)).toInt = ((q : Int) : Int) from hat))).trans (by first | omega | rfl | (dsimp only; omega)), .inr (.inr (.inr (.inr ⟨rfl, ((show (((cm_u1 (cm_u1 (cm_u1 (cm_u1 (cm_u1 w9 2 8 (Int32.ofInt (-1))) 2 6 ((cm_u1 w9 2 8 (Int32.ofInt (-1))).1 2 4)) 2 4 v4_) 2 10 ((cm_u1 (cm_u1 w9 2 8 (Int32.ofInt (-1))) 2 6 ((cm_u1 w9 2 8 (Int32.ofInt (-1))).1 2 4)).1 1 q)) 2 5 (Int32.ofInt 1)).1 2 8)).toInt = ((-1) : Int) from (show ((Int32.ofInt (-1))).toInt = (-1) from by decide))).trans (by omega), .inl (((show (((cm_u1 (cm_u1 (cm_u1 (cm_u1 (cm_u1 w9 2 8 (Int32.ofInt (-1))) 2 6 ((cm_u1 w9 2 8 (Int32.ofInt (-1))).1 2 4)) 2 4 v4_) 2 10 ((cm_u1 (cm_u1 w9 2 8 (Int32.ofInt (-1))) 2 6 ((cm_u1 w9 2 8 (Int32.ofInt (-1))).1 2 4)).1 1 q)) 2 5 (Int32.ofInt 1)).1 2 5)).toInt = (1 : Int) from (show ((Int32.ofInt 1)).toInt = 1 from by decide))).trans (by omega))⟩)))⟩
                · have h169_7 := aw_lt_f (a := ((T q) : Int)) (b := (60 : Int)) (show (((cm_u1 (cm_u1 w9 2 8 (Int32.ofInt (-1))) 2 6 ((cm_u1 w9 2 8 (Int32.ofInt (-1))).1 2 4)).1 1 q)).toInt = ((T q) : Int) from hc0) (show (((Int8.ofInt 60).toInt32)).toInt = 60 from by decide) h169_7
                  refine wk_iload_n xd_b654e35b rfl ?_
                  refine wk_bipush xd_ec39191e ?_
                  refine wk_icmp xd_50f34471 (t := 182) rfl (fun h175_8 => ?_) (fun h175_8 => ?_)
                  · have h175_8 := aw_gt_t (a := ((T q) : Int)) (b := (62 : Int)) (show (((cm_u1 (cm_u1 w9 2 8 (Int32.ofInt (-1))) 2 6 ((cm_u1 w9 2 8 (Int32.ofInt (-1))).1 2 4)).1 1 q)).toInt = ((T q) : Int) from hc0) (show (((Int8.ofInt 62).toInt32)).toInt = 62 from by decide) h175_8
                    refine wk_iconst xd_2d9a145b ?_
                    refine wk_putI xf_f8656130 (fun ci => wk_fitI ci) xd_3f258136 ?_
                    refine wk_return xd_9e81f065 xr_1524ee99 ⟨_, rfl, (rd_S_u1 (rd_S_u1 (rd_S_u1 (rd_S_u1 (rd_S_u1 hS (by omega) (by omega)) (by omega) (by omega)) (by omega) (by omega)) (by omega) (by omega)) (by omega) (by omega)), ?_⟩
                    have hnan : ¬ (tx_Sm (T q) ∨ tx_Dg (T q)) := by
                      intro h
                      omega
                    rw [tx_tk_sign hs (by omega) (by omega) hnan, if_neg (by omega)]
                    exact ⟨((show (((cm_u1 (cm_u1 (cm_u1 (cm_u1 (cm_u1 w9 2 8 (Int32.ofInt (-1))) 2 6 ((cm_u1 w9 2 8 (Int32.ofInt (-1))).1 2 4)) 2 4 v4_) 2 10 ((cm_u1 (cm_u1 w9 2 8 (Int32.ofInt (-1))) 2 6 ((cm_u1 w9 2 8 (Int32.ofInt (-1))).1 2 4)).1 1 q)) 2 5 (Int32.ofInt 1)).1 2 6)).toInt = ((q : Int) : Int) from (show (((cm_u1 w9 2 8 (Int32.ofInt (-1))).1 2 4)).toInt = ((q : Int) : Int) from hat))).trans (by first | omega | rfl | (dsimp only; omega)), .inr (.inr (.inr (.inr ⟨rfl, ((show (((cm_u1 (cm_u1 (cm_u1 (cm_u1 (cm_u1 w9 2 8 (Int32.ofInt (-1))) 2 6 ((cm_u1 w9 2 8 (Int32.ofInt (-1))).1 2 4)) 2 4 v4_) 2 10 ((cm_u1 (cm_u1 w9 2 8 (Int32.ofInt (-1))) 2 6 ((cm_u1 w9 2 8 (Int32.ofInt (-1))).1 2 4)).1 1 q)) 2 5 (Int32.ofInt 1)).1 2 8)).toInt = ((-1) : Int) from (show ((Int32.ofInt (-1))).toInt = (-1) from by decide))).trans (by omega), .inl (((show (((cm_u1 (cm_u1 (cm_u1 (cm_u1 (cm_u1 w9 2 8 (Int32.ofInt (-1))) 2 6 ((cm_u1 w9 2 8 (Int32.ofInt (-1))).1 2 4)) 2 4 v4_) 2 10 ((cm_u1 (cm_u1 w9 2 8 (Int32.ofInt (-1))) 2 6 ((cm_u1 w9 2 8 (Int32.ofInt (-1))).1 2 4)).1 1 q)) 2 5 (Int32.ofInt 1)).1 2 5)).toInt = (1 : Int) from (show ((Int32.ofInt 1)).toInt = 1 from by decide))).trans (by omega))⟩)))⟩
                  · have h175_8 := aw_gt_f (a := ((T q) : Int)) (b := (62 : Int)) (show (((cm_u1 (cm_u1 w9 2 8 (Int32.ofInt (-1))) 2 6 ((cm_u1 w9 2 8 (Int32.ofInt (-1))).1 2 4)).1 1 q)).toInt = ((T q) : Int) from hc0) (show (((Int8.ofInt 62).toInt32)).toInt = 62 from by decide) h175_8
                    refine wk_iconst xd_0469af23 ?_
                    refine wk_goto xd_7c741bf1 (t := 183) rfl ?_
                    refine wk_putI xf_f8656130 (fun ci => wk_fitI ci) xd_3f258136 ?_
                    refine wk_return xd_9e81f065 xr_1524ee99 ⟨_, rfl, (rd_S_u1 (rd_S_u1 (rd_S_u1 (rd_S_u1 (rd_S_u1 hS (by omega) (by omega)) (by omega) (by omega)) (by omega) (by omega)) (by omega) (by omega)) (by omega) (by omega)), ?_⟩
                    have hnan : ¬ (tx_Sm (T q) ∨ tx_Dg (T q)) := by
                      intro h
                      omega
                    rw [tx_tk_sign hs (by omega) (by omega) hnan, if_pos (by omega)]
                    exact ⟨((show (((cm_u1 (cm_u1 (cm_u1 (cm_u1 (cm_u1 w9 2 8 (Int32.ofInt (-1))) 2 6 ((cm_u1 w9 2 8 (Int32.ofInt (-1))).1 2 4)) 2 4 v4_) 2 10 ((cm_u1 (cm_u1 w9 2 8 (Int32.ofInt (-1))) 2 6 ((cm_u1 w9 2 8 (Int32.ofInt (-1))).1 2 4)).1 1 q)) 2 5 (Int32.ofInt 4)).1 2 6)).toInt = ((q : Int) : Int) from (show (((cm_u1 w9 2 8 (Int32.ofInt (-1))).1 2 4)).toInt = ((q : Int) : Int) from hat))).trans (by first | omega | rfl | (dsimp only; omega)), .inr (.inr (.inr (.inl ⟨rfl, ((show (((cm_u1 (cm_u1 (cm_u1 (cm_u1 (cm_u1 w9 2 8 (Int32.ofInt (-1))) 2 6 ((cm_u1 w9 2 8 (Int32.ofInt (-1))).1 2 4)) 2 4 v4_) 2 10 ((cm_u1 (cm_u1 w9 2 8 (Int32.ofInt (-1))) 2 6 ((cm_u1 w9 2 8 (Int32.ofInt (-1))).1 2 4)).1 1 q)) 2 5 (Int32.ofInt 4)).1 2 5)).toInt = (4 : Int) from (show ((Int32.ofInt 4)).toInt = 4 from by decide))).trans (by omega), ((show (((cm_u1 (cm_u1 (cm_u1 (cm_u1 (cm_u1 w9 2 8 (Int32.ofInt (-1))) 2 6 ((cm_u1 w9 2 8 (Int32.ofInt (-1))).1 2 4)) 2 4 v4_) 2 10 ((cm_u1 (cm_u1 w9 2 8 (Int32.ofInt (-1))) 2 6 ((cm_u1 w9 2 8 (Int32.ofInt (-1))).1 2 4)).1 1 q)) 2 5 (Int32.ofInt 4)).1 2 4)).toInt = ((q : Int) + 1 : Int) from p4_)).trans (by first | omega | rfl | (dsimp only; omega)), ((show (((cm_u1 (cm_u1 (cm_u1 (cm_u1 (cm_u1 w9 2 8 (Int32.ofInt (-1))) 2 6 ((cm_u1 w9 2 8 (Int32.ofInt (-1))).1 2 4)) 2 4 v4_) 2 10 ((cm_u1 (cm_u1 w9 2 8 (Int32.ofInt (-1))) 2 6 ((cm_u1 w9 2 8 (Int32.ofInt (-1))).1 2 4)).1 1 q)) 2 5 (Int32.ofInt 4)).1 2 8)).toInt = ((-1) : Int) from (show ((Int32.ofInt (-1))).toInt = (-1) from by decide))).trans (by omega), ((show (((cm_u1 (cm_u1 (cm_u1 (cm_u1 (cm_u1 w9 2 8 (Int32.ofInt (-1))) 2 6 ((cm_u1 w9 2 8 (Int32.ofInt (-1))).1 2 4)) 2 4 v4_) 2 10 ((cm_u1 (cm_u1 w9 2 8 (Int32.ofInt (-1))) 2 6 ((cm_u1 w9 2 8 (Int32.ofInt (-1))).1 2 4)).1 1 q)) 2 5 (Int32.ofInt 4)).1 2 10)).toInt = ((T q) : Int) from (show (((cm_u1 (cm_u1 w9 2 8 (Int32.ofInt (-1))) 2 6 ((cm_u1 w9 2 8 (Int32.ofInt (-1))).1 2 4)).1 1 q)).toInt = ((T q) : Int) from hc0))).trans (by first | omega | rfl | (dsimp only; omega))⟩)))⟩
        · have h118_2 := aw_lt_f (a := ((T q) : Int)) (b := (48 : Int)) (show (((cm_u1 (cm_u1 w9 2 8 (Int32.ofInt (-1))) 2 6 ((cm_u1 w9 2 8 (Int32.ofInt (-1))).1 2 4)).1 1 q)).toInt = ((T q) : Int) from hc0) (show (((Int8.ofInt 48).toInt32)).toInt = 48 from by decide) h118_2
          refine wk_iload_n xd_2892211e rfl ?_
          refine wk_bipush xd_d11df56c ?_
          refine wk_icmp xd_bb4dc188 (t := 132) rfl (fun h124_9 => ?_) (fun h124_9 => ?_)
          · have h124_9 := aw_gt_t (a := ((T q) : Int)) (b := (57 : Int)) (show (((cm_u1 (cm_u1 w9 2 8 (Int32.ofInt (-1))) 2 6 ((cm_u1 w9 2 8 (Int32.ofInt (-1))).1 2 4)).1 1 q)).toInt = ((T q) : Int) from hc0) (show (((Int8.ofInt 57).toInt32)).toInt = 57 from by decide) h124_9
            refine wk_aload_n xd_ff91fd09 rfl ?_
            refine wk_dup_r xd_1781b835 ?_
            refine wk_getI xf_7c4ceb86 xd_d8d2e388 ?_
            refine wk_iconst xd_104f9980 ?_
            refine aw_iadd (a := ((q : Int) : Int)) (b := (1 : Int)) (e := ((q : Int) + 1 : Int)) xd_16ba51bb (show (((cm_u1 (cm_u1 w9 2 8 (Int32.ofInt (-1))) 2 6 ((cm_u1 w9 2 8 (Int32.ofInt (-1))).1 2 4)).1 2 4)).toInt = ((q : Int) : Int) from hat) (show ((Int32.ofInt 1)).toInt = 1 from by decide) (by omega) (by omega) (by omega) (fun v11_ p11_ => ?_)
            refine wk_putI xf_5e4f7f32 (fun ci => wk_fitI ci) xd_133e06f3 ?_
            refine wk_aload_n xd_ce89ca7e rfl ?_
            refine wk_iload_n xd_7539a0a7 rfl ?_
            refine wk_putI xf_b4d7841d (fun ci => wk_fitI ci) xd_b014b399 ?_
            refine wk_aload_n xd_55a68139 rfl ?_
            refine wk_iload_n xd_0365dabc rfl ?_
            refine wk_bipush xd_a84c6346 ?_
            refine wk_icmp xd_b24acabb (t := 178) rfl (fun h151_11 => ?_) (fun h151_11 => ?_)
            · have h151_11 := aw_eq_t (a := ((T q) : Int)) (b := (59 : Int)) (show (((cm_u1 (cm_u1 w9 2 8 (Int32.ofInt (-1))) 2 6 ((cm_u1 w9 2 8 (Int32.ofInt (-1))).1 2 4)).1 1 q)).toInt = ((T q) : Int) from hc0) (show (((Int8.ofInt 59).toInt32)).toInt = 59 from by decide) h151_11
              refine wk_iconst xd_0469af23 ?_
              refine wk_goto xd_7c741bf1 (t := 183) rfl ?_
              refine wk_putI xf_f8656130 (fun ci => wk_fitI ci) xd_3f258136 ?_
              refine wk_return xd_9e81f065 xr_1524ee99 ⟨_, rfl, (rd_S_u1 (rd_S_u1 (rd_S_u1 (rd_S_u1 (rd_S_u1 hS (by omega) (by omega)) (by omega) (by omega)) (by omega) (by omega)) (by omega) (by omega)) (by omega) (by omega)), ?_⟩
              have hnan : ¬ (tx_Sm (T q) ∨ tx_Dg (T q)) := by
                intro h
                omega
              rw [tx_tk_sign hs (by omega) (by omega) hnan, if_pos (by omega)]
              exact ⟨((show (((cm_u1 (cm_u1 (cm_u1 (cm_u1 (cm_u1 w9 2 8 (Int32.ofInt (-1))) 2 6 ((cm_u1 w9 2 8 (Int32.ofInt (-1))).1 2 4)) 2 4 v11_) 2 10 ((cm_u1 (cm_u1 w9 2 8 (Int32.ofInt (-1))) 2 6 ((cm_u1 w9 2 8 (Int32.ofInt (-1))).1 2 4)).1 1 q)) 2 5 (Int32.ofInt 4)).1 2 6)).toInt = ((q : Int) : Int) from (show (((cm_u1 w9 2 8 (Int32.ofInt (-1))).1 2 4)).toInt = ((q : Int) : Int) from hat))).trans (by first | omega | rfl | (dsimp only; omega)), .inr (.inr (.inr (.inl ⟨rfl, ((show (((cm_u1 (cm_u1 (cm_u1 (cm_u1 (cm_u1 w9 2 8 (Int32.ofInt (-1))) 2 6 ((cm_u1 w9 2 8 (Int32.ofInt (-1))).1 2 4)) 2 4 v11_) 2 10 ((cm_u1 (cm_u1 w9 2 8 (Int32.ofInt (-1))) 2 6 ((cm_u1 w9 2 8 (Int32.ofInt (-1))).1 2 4)).1 1 q)) 2 5 (Int32.ofInt 4)).1 2 5)).toInt = (4 : Int) from (show ((Int32.ofInt 4)).toInt = 4 from by decide))).trans (by omega), ((show (((cm_u1 (cm_u1 (cm_u1 (cm_u1 (cm_u1 w9 2 8 (Int32.ofInt (-1))) 2 6 ((cm_u1 w9 2 8 (Int32.ofInt (-1))).1 2 4)) 2 4 v11_) 2 10 ((cm_u1 (cm_u1 w9 2 8 (Int32.ofInt (-1))) 2 6 ((cm_u1 w9 2 8 (Int32.ofInt (-1))).1 2 4)).1 1 q)) 2 5 (Int32.ofInt 4)).1 2 4)).toInt = ((q : Int) + 1 : Int) from p11_)).trans (by first | omega | rfl | (dsimp only; omega)), ((show (((cm_u1 (cm_u1 (cm_u1 (cm_u1 (cm_u1 w9 2 8 (Int32.ofInt (-1))) 2 6 ((cm_u1 w9 2 8 (Int32.ofInt (-1))).1 2 4)) 2 4 v11_) 2 10 ((cm_u1 (cm_u1 w9 2 8 (Int32.ofInt (-1))) 2 6 ((cm_u1 w9 2 8 (Int32.ofInt (-1))).1 2 4)).1 1 q)) 2 5 (Int32.ofInt 4)).1 2 8)).toInt = ((-1) : Int) from (show ((Int32.ofInt (-1))).toInt = (-1) from by decide))).trans (by omega), ((show (((cm_u1 (cm_u1 (cm_u1 (cm_u1 (cm_u1 w9 2 8 (Int32.ofInt (-1))) 2 6 ((cm_u1 w9 2 8 (Int32.ofInt (-1))).1 2 4)) 2 4 v11_) 2 10 ((cm_u1 (cm_u1 w9 2 8 (Int32.ofInt (-1))) 2 6 ((cm_u1 w9 2 8 (Int32.ofInt (-1))).1 2 4)).1 1 q)) 2 5 (Int32.ofInt 4)).1 2 10)).toInt = ((T q) : Int) from (show (((cm_u1 (cm_u1 w9 2 8 (Int32.ofInt (-1))) 2 6 ((cm_u1 w9 2 8 (Int32.ofInt (-1))).1 2 4)).1 1 q)).toInt = ((T q) : Int) from hc0))).trans (by first | omega | rfl | (dsimp only; omega))⟩)))⟩
            · have h151_11 := aw_eq_f (a := ((T q) : Int)) (b := (59 : Int)) (show (((cm_u1 (cm_u1 w9 2 8 (Int32.ofInt (-1))) 2 6 ((cm_u1 w9 2 8 (Int32.ofInt (-1))).1 2 4)).1 1 q)).toInt = ((T q) : Int) from hc0) (show (((Int8.ofInt 59).toInt32)).toInt = 59 from by decide) h151_11
              refine wk_iload_n xd_82a55d2e rfl ?_
              refine wk_bipush xd_efc05500 ?_
              refine wk_icmp xd_38b63155 (t := 178) rfl (fun h157_12 => ?_) (fun h157_12 => ?_)
              · have h157_12 := aw_eq_t (a := ((T q) : Int)) (b := (40 : Int)) (show (((cm_u1 (cm_u1 w9 2 8 (Int32.ofInt (-1))) 2 6 ((cm_u1 w9 2 8 (Int32.ofInt (-1))).1 2 4)).1 1 q)).toInt = ((T q) : Int) from hc0) (show (((Int8.ofInt 40).toInt32)).toInt = 40 from by decide) h157_12
                refine wk_iconst xd_0469af23 ?_
                refine wk_goto xd_7c741bf1 (t := 183) rfl ?_
                refine wk_putI xf_f8656130 (fun ci => wk_fitI ci) xd_3f258136 ?_
                refine wk_return xd_9e81f065 xr_1524ee99 ⟨_, rfl, (rd_S_u1 (rd_S_u1 (rd_S_u1 (rd_S_u1 (rd_S_u1 hS (by omega) (by omega)) (by omega) (by omega)) (by omega) (by omega)) (by omega) (by omega)) (by omega) (by omega)), ?_⟩
                have hnan : ¬ (tx_Sm (T q) ∨ tx_Dg (T q)) := by
                  intro h
                  omega
                rw [tx_tk_sign hs (by omega) (by omega) hnan, if_pos (by omega)]
                exact ⟨((show (((cm_u1 (cm_u1 (cm_u1 (cm_u1 (cm_u1 w9 2 8 (Int32.ofInt (-1))) 2 6 ((cm_u1 w9 2 8 (Int32.ofInt (-1))).1 2 4)) 2 4 v11_) 2 10 ((cm_u1 (cm_u1 w9 2 8 (Int32.ofInt (-1))) 2 6 ((cm_u1 w9 2 8 (Int32.ofInt (-1))).1 2 4)).1 1 q)) 2 5 (Int32.ofInt 4)).1 2 6)).toInt = ((q : Int) : Int) from (show (((cm_u1 w9 2 8 (Int32.ofInt (-1))).1 2 4)).toInt = ((q : Int) : Int) from hat))).trans (by first | omega | rfl | (dsimp only; omega)), .inr (.inr (.inr (.inl ⟨rfl, ((show (((cm_u1 (cm_u1 (cm_u1 (cm_u1 (cm_u1 w9 2 8 (Int32.ofInt (-1))) 2 6 ((cm_u1 w9 2 8 (Int32.ofInt (-1))).1 2 4)) 2 4 v11_) 2 10 ((cm_u1 (cm_u1 w9 2 8 (Int32.ofInt (-1))) 2 6 ((cm_u1 w9 2 8 (Int32.ofInt (-1))).1 2 4)).1 1 q)) 2 5 (Int32.ofInt 4)).1 2 5)).toInt = (4 : Int) from (show ((Int32.ofInt 4)).toInt = 4 from by decide))).trans (by omega), ((show (((cm_u1 (cm_u1 (cm_u1 (cm_u1 (cm_u1 w9 2 8 (Int32.ofInt (-1))) 2 6 ((cm_u1 w9 2 8 (Int32.ofInt (-1))).1 2 4)) 2 4 v11_) 2 10 ((cm_u1 (cm_u1 w9 2 8 (Int32.ofInt (-1))) 2 6 ((cm_u1 w9 2 8 (Int32.ofInt (-1))).1 2 4)).1 1 q)) 2 5 (Int32.ofInt 4)).1 2 4)).toInt = ((q : Int) + 1 : Int) from p11_)).trans (by first | omega | rfl | (dsimp only; omega)), ((show (((cm_u1 (cm_u1 (cm_u1 (cm_u1 (cm_u1 w9 2 8 (Int32.ofInt (-1))) 2 6 ((cm_u1 w9 2 8 (Int32.ofInt (-1))).1 2 4)) 2 4 v11_) 2 10 ((cm_u1 (cm_u1 w9 2 8 (Int32.ofInt (-1))) 2 6 ((cm_u1 w9 2 8 (Int32.ofInt (-1))).1 2 4)).1 1 q)) 2 5 (Int32.ofInt 4)).1 2 8)).toInt = ((-1) : Int) from (show ((Int32.ofInt (-1))).toInt = (-1) from by decide))).trans (by omega), ((show (((cm_u1 (cm_u1 (cm_u1 (cm_u1 (cm_u1 w9 2 8 (Int32.ofInt (-1))) 2 6 ((cm_u1 w9 2 8 (Int32.ofInt (-1))).1 2 4)) 2 4 v11_) 2 10 ((cm_u1 (cm_u1 w9 2 8 (Int32.ofInt (-1))) 2 6 ((cm_u1 w9 2 8 (Int32.ofInt (-1))).1 2 4)).1 1 q)) 2 5 (Int32.ofInt 4)).1 2 10)).toInt = ((T q) : Int) from (show (((cm_u1 (cm_u1 w9 2 8 (Int32.ofInt (-1))) 2 6 ((cm_u1 w9 2 8 (Int32.ofInt (-1))).1 2 4)).1 1 q)).toInt = ((T q) : Int) from hc0))).trans (by first | omega | rfl | (dsimp only; omega))⟩)))⟩
              · have h157_12 := aw_eq_f (a := ((T q) : Int)) (b := (40 : Int)) (show (((cm_u1 (cm_u1 w9 2 8 (Int32.ofInt (-1))) 2 6 ((cm_u1 w9 2 8 (Int32.ofInt (-1))).1 2 4)).1 1 q)).toInt = ((T q) : Int) from hc0) (show (((Int8.ofInt 40).toInt32)).toInt = 40 from by decide) h157_12
                refine wk_iload_n xd_dae75595 rfl ?_
                refine wk_bipush xd_8ae2740b ?_
                refine wk_icmp xd_e87d7a23 (t := 178) rfl (fun h163_13 => ?_) (fun h163_13 => ?_)
                · have h163_13 := aw_eq_t (a := ((T q) : Int)) (b := (41 : Int)) (show (((cm_u1 (cm_u1 w9 2 8 (Int32.ofInt (-1))) 2 6 ((cm_u1 w9 2 8 (Int32.ofInt (-1))).1 2 4)).1 1 q)).toInt = ((T q) : Int) from hc0) (show (((Int8.ofInt 41).toInt32)).toInt = 41 from by decide) h163_13
                  refine wk_iconst xd_0469af23 ?_
                  refine wk_goto xd_7c741bf1 (t := 183) rfl ?_
                  refine wk_putI xf_f8656130 (fun ci => wk_fitI ci) xd_3f258136 ?_
                  refine wk_return xd_9e81f065 xr_1524ee99 ⟨_, rfl, (rd_S_u1 (rd_S_u1 (rd_S_u1 (rd_S_u1 (rd_S_u1 hS (by omega) (by omega)) (by omega) (by omega)) (by omega) (by omega)) (by omega) (by omega)) (by omega) (by omega)), ?_⟩
                  have hnan : ¬ (tx_Sm (T q) ∨ tx_Dg (T q)) := by
                    intro h
                    omega
                  rw [tx_tk_sign hs (by omega) (by omega) hnan, if_pos (by omega)]
                  exact ⟨((show (((cm_u1 (cm_u1 (cm_u1 (cm_u1 (cm_u1 w9 2 8 (Int32.ofInt (-1))) 2 6 ((cm_u1 w9 2 8 (Int32.ofInt (-1))).1 2 4)) 2 4 v11_) 2 10 ((cm_u1 (cm_u1 w9 2 8 (Int32.ofInt (-1))) 2 6 ((cm_u1 w9 2 8 (Int32.ofInt (-1))).1 2 4)).1 1 q)) 2 5 (Int32.ofInt 4)).1 2 6)).toInt = ((q : Int) : Int) from (show (((cm_u1 w9 2 8 (Int32.ofInt (-1))).1 2 4)).toInt = ((q : Int) : Int) from hat))).trans (by first | omega | rfl | (dsimp only; omega)), .inr (.inr (.inr (.inl ⟨rfl, ((show (((cm_u1 (cm_u1 (cm_u1 (cm_u1 (cm_u1 w9 2 8 (Int32.ofInt (-1))) 2 6 ((cm_u1 w9 2 8 (Int32.ofInt (-1))).1 2 4)) 2 4 v11_) 2 10 ((cm_u1 (cm_u1 w9 2 8 (Int32.ofInt (-1))) 2 6 ((cm_u1 w9 2 8 (Int32.ofInt (-1))).1 2 4)).1 1 q)) 2 5 (Int32.ofInt 4)).1 2 5)).toInt = (4 : Int) from (show ((Int32.ofInt 4)).toInt = 4 from by decide))).trans (by omega), ((show (((cm_u1 (cm_u1 (cm_u1 (cm_u1 (cm_u1 w9 2 8 (Int32.ofInt (-1))) 2 6 ((cm_u1 w9 2 8 (Int32.ofInt (-1))).1 2 4)) 2 4 v11_) 2 10 ((cm_u1 (cm_u1 w9 2 8 (Int32.ofInt (-1))) 2 6 ((cm_u1 w9 2 8 (Int32.ofInt (-1))).1 2 4)).1 1 q)) 2 5 (Int32.ofInt 4)).1 2 4)).toInt = ((q : Int) + 1 : Int) from p11_)).trans (by first | omega | rfl | (dsimp only; omega)), ((show (((cm_u1 (cm_u1 (cm_u1 (cm_u1 (cm_u1 w9 2 8 (Int32.ofInt (-1))) 2 6 ((cm_u1 w9 2 8 (Int32.ofInt (-1))).1 2 4)) 2 4 v11_) 2 10 ((cm_u1 (cm_u1 w9 2 8 (Int32.ofInt (-1))) 2 6 ((cm_u1 w9 2 8 (Int32.ofInt (-1))).1 2 4)).1 1 q)) 2 5 (Int32.ofInt 4)).1 2 8)).toInt = ((-1) : Int) from (show ((Int32.ofInt (-1))).toInt = (-1) from by decide))).trans (by omega), ((show (((cm_u1 (cm_u1 (cm_u1 (cm_u1 (cm_u1 w9 2 8 (Int32.ofInt (-1))) 2 6 ((cm_u1 w9 2 8 (Int32.ofInt (-1))).1 2 4)) 2 4 v11_) 2 10 ((cm_u1 (cm_u1 w9 2 8 (Int32.ofInt (-1))) 2 6 ((cm_u1 w9 2 8 (Int32.ofInt (-1))).1 2 4)).1 1 q)) 2 5 (Int32.ofInt 4)).1 2 10)).toInt = ((T q) : Int) from (show (((cm_u1 (cm_u1 w9 2 8 (Int32.ofInt (-1))) 2 6 ((cm_u1 w9 2 8 (Int32.ofInt (-1))).1 2 4)).1 1 q)).toInt = ((T q) : Int) from hc0))).trans (by first | omega | rfl | (dsimp only; omega))⟩)))⟩
                · have h163_13 := aw_eq_f (a := ((T q) : Int)) (b := (41 : Int)) (show (((cm_u1 (cm_u1 w9 2 8 (Int32.ofInt (-1))) 2 6 ((cm_u1 w9 2 8 (Int32.ofInt (-1))).1 2 4)).1 1 q)).toInt = ((T q) : Int) from hc0) (show (((Int8.ofInt 41).toInt32)).toInt = 41 from by decide) h163_13
                  refine wk_iload_n xd_372d27ef rfl ?_
                  refine wk_bipush xd_17808eca ?_
                  refine wk_icmp xd_8dba256e (t := 182) rfl (fun h169_14 => ?_) (fun h169_14 => ?_)
                  · have h169_14 := aw_lt_t (a := ((T q) : Int)) (b := (60 : Int)) (show (((cm_u1 (cm_u1 w9 2 8 (Int32.ofInt (-1))) 2 6 ((cm_u1 w9 2 8 (Int32.ofInt (-1))).1 2 4)).1 1 q)).toInt = ((T q) : Int) from hc0) (show (((Int8.ofInt 60).toInt32)).toInt = 60 from by decide) h169_14
                    refine wk_iconst xd_2d9a145b ?_
                    refine wk_putI xf_f8656130 (fun ci => wk_fitI ci) xd_3f258136 ?_
                    refine wk_return xd_9e81f065 xr_1524ee99 ⟨_, rfl, (rd_S_u1 (rd_S_u1 (rd_S_u1 (rd_S_u1 (rd_S_u1 hS (by omega) (by omega)) (by omega) (by omega)) (by omega) (by omega)) (by omega) (by omega)) (by omega) (by omega)), ?_⟩
                    have hnan : ¬ (tx_Sm (T q) ∨ tx_Dg (T q)) := by
                      intro h
                      omega
                    rw [tx_tk_sign hs (by omega) (by omega) hnan, if_neg (by omega)]
                    exact ⟨((show (((cm_u1 (cm_u1 (cm_u1 (cm_u1 (cm_u1 w9 2 8 (Int32.ofInt (-1))) 2 6 ((cm_u1 w9 2 8 (Int32.ofInt (-1))).1 2 4)) 2 4 v11_) 2 10 ((cm_u1 (cm_u1 w9 2 8 (Int32.ofInt (-1))) 2 6 ((cm_u1 w9 2 8 (Int32.ofInt (-1))).1 2 4)).1 1 q)) 2 5 (Int32.ofInt 1)).1 2 6)).toInt = ((q : Int) : Int) from (show (((cm_u1 w9 2 8 (Int32.ofInt (-1))).1 2 4)).toInt = ((q : Int) : Int) from hat))).trans (by first | omega | rfl | (dsimp only; omega)), .inr (.inr (.inr (.inr ⟨rfl, ((show (((cm_u1 (cm_u1 (cm_u1 (cm_u1 (cm_u1 w9 2 8 (Int32.ofInt (-1))) 2 6 ((cm_u1 w9 2 8 (Int32.ofInt (-1))).1 2 4)) 2 4 v11_) 2 10 ((cm_u1 (cm_u1 w9 2 8 (Int32.ofInt (-1))) 2 6 ((cm_u1 w9 2 8 (Int32.ofInt (-1))).1 2 4)).1 1 q)) 2 5 (Int32.ofInt 1)).1 2 8)).toInt = ((-1) : Int) from (show ((Int32.ofInt (-1))).toInt = (-1) from by decide))).trans (by omega), .inl (((show (((cm_u1 (cm_u1 (cm_u1 (cm_u1 (cm_u1 w9 2 8 (Int32.ofInt (-1))) 2 6 ((cm_u1 w9 2 8 (Int32.ofInt (-1))).1 2 4)) 2 4 v11_) 2 10 ((cm_u1 (cm_u1 w9 2 8 (Int32.ofInt (-1))) 2 6 ((cm_u1 w9 2 8 (Int32.ofInt (-1))).1 2 4)).1 1 q)) 2 5 (Int32.ofInt 1)).1 2 5)).toInt = (1 : Int) from (show ((Int32.ofInt 1)).toInt = 1 from by decide))).trans (by omega))⟩)))⟩
                  · have h169_14 := aw_lt_f (a := ((T q) : Int)) (b := (60 : Int)) (show (((cm_u1 (cm_u1 w9 2 8 (Int32.ofInt (-1))) 2 6 ((cm_u1 w9 2 8 (Int32.ofInt (-1))).1 2 4)).1 1 q)).toInt = ((T q) : Int) from hc0) (show (((Int8.ofInt 60).toInt32)).toInt = 60 from by decide) h169_14
                    refine wk_iload_n xd_b654e35b rfl ?_
                    refine wk_bipush xd_ec39191e ?_
                    refine wk_icmp xd_50f34471 (t := 182) rfl (fun h175_15 => ?_) (fun h175_15 => ?_)
                    · have h175_15 := aw_gt_t (a := ((T q) : Int)) (b := (62 : Int)) (show (((cm_u1 (cm_u1 w9 2 8 (Int32.ofInt (-1))) 2 6 ((cm_u1 w9 2 8 (Int32.ofInt (-1))).1 2 4)).1 1 q)).toInt = ((T q) : Int) from hc0) (show (((Int8.ofInt 62).toInt32)).toInt = 62 from by decide) h175_15
                      refine wk_iconst xd_2d9a145b ?_
                      refine wk_putI xf_f8656130 (fun ci => wk_fitI ci) xd_3f258136 ?_
                      refine wk_return xd_9e81f065 xr_1524ee99 ⟨_, rfl, (rd_S_u1 (rd_S_u1 (rd_S_u1 (rd_S_u1 (rd_S_u1 hS (by omega) (by omega)) (by omega) (by omega)) (by omega) (by omega)) (by omega) (by omega)) (by omega) (by omega)), ?_⟩
                      have hnan : ¬ (tx_Sm (T q) ∨ tx_Dg (T q)) := by
                        intro h
                        omega
                      rw [tx_tk_sign hs (by omega) (by omega) hnan, if_neg (by omega)]
                      exact ⟨((show (((cm_u1 (cm_u1 (cm_u1 (cm_u1 (cm_u1 w9 2 8 (Int32.ofInt (-1))) 2 6 ((cm_u1 w9 2 8 (Int32.ofInt (-1))).1 2 4)) 2 4 v11_) 2 10 ((cm_u1 (cm_u1 w9 2 8 (Int32.ofInt (-1))) 2 6 ((cm_u1 w9 2 8 (Int32.ofInt (-1))).1 2 4)).1 1 q)) 2 5 (Int32.ofInt 1)).1 2 6)).toInt = ((q : Int) : Int) from (show (((cm_u1 w9 2 8 (Int32.ofInt (-1))).1 2 4)).toInt = ((q : Int) : Int) from hat))).trans (by first | omega | rfl | (dsimp only; omega)), .inr (.inr (.inr (.inr ⟨rfl, ((show (((cm_u1 (cm_u1 (cm_u1 (cm_u1 (cm_u1 w9 2 8 (Int32.ofInt (-1))) 2 6 ((cm_u1 w9 2 8 (Int32.ofInt (-1))).1 2 4)) 2 4 v11_) 2 10 ((cm_u1 (cm_u1 w9 2 8 (Int32.ofInt (-1))) 2 6 ((cm_u1 w9 2 8 (Int32.ofInt (-1))).1 2 4)).1 1 q)) 2 5 (Int32.ofInt 1)).1 2 8)).toInt = ((-1) : Int) from (show ((Int32.ofInt (-1))).toInt = (-1) from by decide))).trans (by omega), .inl (((show (((cm_u1 (cm_u1 (cm_u1 (cm_u1 (cm_u1 w9 2 8 (Int32.ofInt (-1))) 2 6 ((cm_u1 w9 2 8 (Int32.ofInt (-1))).1 2 4)) 2 4 v11_) 2 10 ((cm_u1 (cm_u1 w9 2 8 (Int32.ofInt (-1))) 2 6 ((cm_u1 w9 2 8 (Int32.ofInt (-1))).1 2 4)).1 1 q)) 2 5 (Int32.ofInt 1)).1 2 5)).toInt = (1 : Int) from (show ((Int32.ofInt 1)).toInt = 1 from by decide))).trans (by omega))⟩)))⟩
                    · have h175_15 := aw_gt_f (a := ((T q) : Int)) (b := (62 : Int)) (show (((cm_u1 (cm_u1 w9 2 8 (Int32.ofInt (-1))) 2 6 ((cm_u1 w9 2 8 (Int32.ofInt (-1))).1 2 4)).1 1 q)).toInt = ((T q) : Int) from hc0) (show (((Int8.ofInt 62).toInt32)).toInt = 62 from by decide) h175_15
                      refine wk_iconst xd_0469af23 ?_
                      refine wk_goto xd_7c741bf1 (t := 183) rfl ?_
                      refine wk_putI xf_f8656130 (fun ci => wk_fitI ci) xd_3f258136 ?_
                      refine wk_return xd_9e81f065 xr_1524ee99 ⟨_, rfl, (rd_S_u1 (rd_S_u1 (rd_S_u1 (rd_S_u1 (rd_S_u1 hS (by omega) (by omega)) (by omega) (by omega)) (by omega) (by omega)) (by omega) (by omega)) (by omega) (by omega)), ?_⟩
                      have hnan : ¬ (tx_Sm (T q) ∨ tx_Dg (T q)) := by
                        intro h
                        omega
                      rw [tx_tk_sign hs (by omega) (by omega) hnan, if_pos (by omega)]
                      exact ⟨((show (((cm_u1 (cm_u1 (cm_u1 (cm_u1 (cm_u1 w9 2 8 (Int32.ofInt (-1))) 2 6 ((cm_u1 w9 2 8 (Int32.ofInt (-1))).1 2 4)) 2 4 v11_) 2 10 ((cm_u1 (cm_u1 w9 2 8 (Int32.ofInt (-1))) 2 6 ((cm_u1 w9 2 8 (Int32.ofInt (-1))).1 2 4)).1 1 q)) 2 5 (Int32.ofInt 4)).1 2 6)).toInt = ((q : Int) : Int) from (show (((cm_u1 w9 2 8 (Int32.ofInt (-1))).1 2 4)).toInt = ((q : Int) : Int) from hat))).trans (by first | omega | rfl | (dsimp only; omega)), .inr (.inr (.inr (.inl ⟨rfl, ((show (((cm_u1 (cm_u1 (cm_u1 (cm_u1 (cm_u1 w9 2 8 (Int32.ofInt (-1))) 2 6 ((cm_u1 w9 2 8 (Int32.ofInt (-1))).1 2 4)) 2 4 v11_) 2 10 ((cm_u1 (cm_u1 w9 2 8 (Int32.ofInt (-1))) 2 6 ((cm_u1 w9 2 8 (Int32.ofInt (-1))).1 2 4)).1 1 q)) 2 5 (Int32.ofInt 4)).1 2 5)).toInt = (4 : Int) from (show ((Int32.ofInt 4)).toInt = 4 from by decide))).trans (by omega), ((show (((cm_u1 (cm_u1 (cm_u1 (cm_u1 (cm_u1 w9 2 8 (Int32.ofInt (-1))) 2 6 ((cm_u1 w9 2 8 (Int32.ofInt (-1))).1 2 4)) 2 4 v11_) 2 10 ((cm_u1 (cm_u1 w9 2 8 (Int32.ofInt (-1))) 2 6 ((cm_u1 w9 2 8 (Int32.ofInt (-1))).1 2 4)).1 1 q)) 2 5 (Int32.ofInt 4)).1 2 4)).toInt = ((q : Int) + 1 : Int) from p11_)).trans (by first | omega | rfl | (dsimp only; omega)), ((show (((cm_u1 (cm_u1 (cm_u1 (cm_u1 (cm_u1 w9 2 8 (Int32.ofInt (-1))) 2 6 ((cm_u1 w9 2 8 (Int32.ofInt (-1))).1 2 4)) 2 4 v11_) 2 10 ((cm_u1 (cm_u1 w9 2 8 (Int32.ofInt (-1))) 2 6 ((cm_u1 w9 2 8 (Int32.ofInt (-1))).1 2 4)).1 1 q)) 2 5 (Int32.ofInt 4)).1 2 8)).toInt = ((-1) : Int) from (show ((Int32.ofInt (-1))).toInt = (-1) from by decide))).trans (by omega), ((show (((cm_u1 (cm_u1 (cm_u1 (cm_u1 (cm_u1 w9 2 8 (Int32.ofInt (-1))) 2 6 ((cm_u1 w9 2 8 (Int32.ofInt (-1))).1 2 4)) 2 4 v11_) 2 10 ((cm_u1 (cm_u1 w9 2 8 (Int32.ofInt (-1))) 2 6 ((cm_u1 w9 2 8 (Int32.ofInt (-1))).1 2 4)).1 1 q)) 2 5 (Int32.ofInt 4)).1 2 10)).toInt = ((T q) : Int) from (show (((cm_u1 (cm_u1 w9 2 8 (Int32.ofInt (-1))) 2 6 ((cm_u1 w9 2 8 (Int32.ofInt (-1))).1 2 4)).1 1 q)).toInt = ((T q) : Int) from hc0))).trans (by first | omega | rfl | (dsimp only; omega))⟩)))⟩
          · have h124_9 := aw_gt_f (a := ((T q) : Int)) (b := (57 : Int)) (show (((cm_u1 (cm_u1 w9 2 8 (Int32.ofInt (-1))) 2 6 ((cm_u1 w9 2 8 (Int32.ofInt (-1))).1 2 4)).1 1 q)).toInt = ((T q) : Int) from hc0) (show (((Int8.ofInt 57).toInt32)).toInt = 57 from by decide) h124_9
            refine wk_aload_n xd_e59bd369 rfl ?_
            have han : tx_Sm (T q) ∨ tx_Dg (T q) := by omega
            have hS8 : rd_S w (cm_u1 (cm_u1 w9 2 8 (Int32.ofInt (-1))) 2 6 ((cm_u1 w9 2 8 (Int32.ofInt (-1))).1 2 4)) := (rd_S_u1 (rd_S_u1 hS (by omega) (by omega)) (by omega) (by omega))
            obtain ⟨k, w2, hC2, hS2, hre2, hR2⟩ := rr_ok (w := (cm_u1 (cm_u1 w9 2 8 (Int32.ofInt (-1))) 2 6 ((cm_u1 w9 2 8 (Int32.ofInt (-1))).1 2 4))) (b := q) (rd_T_S hT hS8) (((show (((cm_u1 (cm_u1 w9 2 8 (Int32.ofInt (-1))) 2 6 ((cm_u1 w9 2 8 (Int32.ofInt (-1))).1 2 4)).1 2 4)).toInt = ((q : Int) : Int) from hat)).trans (by omega)) (((show (((cm_u1 (cm_u1 w9 2 8 (Int32.ofInt (-1))) 2 6 ((cm_u1 w9 2 8 (Int32.ofInt (-1))).1 2 4)).1 2 6)).toInt = ((q : Int) : Int) from (show (((cm_u1 w9 2 8 (Int32.ofInt (-1))).1 2 4)).toInt = ((q : Int) : Int) from hat))).trans (by omega)) (((show (((cm_u1 (cm_u1 w9 2 8 (Int32.ofInt (-1))) 2 6 ((cm_u1 w9 2 8 (Int32.ofInt (-1))).1 2 4)).1 2 8)).toInt = ((-1) : Int) from (show ((Int32.ofInt (-1))).toInt = (-1) from by decide))).trans (by omega)) (by omega) han
            refine wk_call (kd := 0) (i := 67) xd_d1490142 rfl (wk_cal (as := [.inr (.inr (some 2))]) (t := []) xl_37018762 rfl xn_1e04ee16 xc_4a21075b rfl rfl xv_5015f191 rfl) hC2 ?_
            refine wk_return xd_775dfd7d xr_1524ee99 ⟨_, rfl, rd_S_tr hS8 hS2, ?_⟩
            rw [tx_tk_run hs (by omega) (by omega) han hre2]
            exact hR2
      · have h106_1 := aw_lt_f (a := ((T q) : Int)) (b := (97 : Int)) (show (((cm_u1 (cm_u1 w9 2 8 (Int32.ofInt (-1))) 2 6 ((cm_u1 w9 2 8 (Int32.ofInt (-1))).1 2 4)).1 1 q)).toInt = ((T q) : Int) from hc0) (show (((Int8.ofInt 97).toInt32)).toInt = 97 from by decide) h106_1
        refine wk_iload_n xd_f110ae37 rfl ?_
        refine wk_bipush xd_bfa3a244 ?_
        refine wk_icmp xd_4ffc0709 (t := 127) rfl (fun h112_16 => ?_) (fun h112_16 => ?_)
        · have h112_16 := aw_le_t (a := ((T q) : Int)) (b := (122 : Int)) (show (((cm_u1 (cm_u1 w9 2 8 (Int32.ofInt (-1))) 2 6 ((cm_u1 w9 2 8 (Int32.ofInt (-1))).1 2 4)).1 1 q)).toInt = ((T q) : Int) from hc0) (show (((Int8.ofInt 122).toInt32)).toInt = 122 from by decide) h112_16
          refine wk_aload_n xd_e59bd369 rfl ?_
          have han : tx_Sm (T q) ∨ tx_Dg (T q) := by omega
          have hS8 : rd_S w (cm_u1 (cm_u1 w9 2 8 (Int32.ofInt (-1))) 2 6 ((cm_u1 w9 2 8 (Int32.ofInt (-1))).1 2 4)) := (rd_S_u1 (rd_S_u1 hS (by omega) (by omega)) (by omega) (by omega))
          obtain ⟨k, w2, hC2, hS2, hre2, hR2⟩ := rr_ok (w := (cm_u1 (cm_u1 w9 2 8 (Int32.ofInt (-1))) 2 6 ((cm_u1 w9 2 8 (Int32.ofInt (-1))).1 2 4))) (b := q) (rd_T_S hT hS8) (((show (((cm_u1 (cm_u1 w9 2 8 (Int32.ofInt (-1))) 2 6 ((cm_u1 w9 2 8 (Int32.ofInt (-1))).1 2 4)).1 2 4)).toInt = ((q : Int) : Int) from hat)).trans (by omega)) (((show (((cm_u1 (cm_u1 w9 2 8 (Int32.ofInt (-1))) 2 6 ((cm_u1 w9 2 8 (Int32.ofInt (-1))).1 2 4)).1 2 6)).toInt = ((q : Int) : Int) from (show (((cm_u1 w9 2 8 (Int32.ofInt (-1))).1 2 4)).toInt = ((q : Int) : Int) from hat))).trans (by omega)) (((show (((cm_u1 (cm_u1 w9 2 8 (Int32.ofInt (-1))) 2 6 ((cm_u1 w9 2 8 (Int32.ofInt (-1))).1 2 4)).1 2 8)).toInt = ((-1) : Int) from (show ((Int32.ofInt (-1))).toInt = (-1) from by decide))).trans (by omega)) (by omega) han
          refine wk_call (kd := 0) (i := 67) xd_d1490142 rfl (wk_cal (as := [.inr (.inr (some 2))]) (t := []) xl_37018762 rfl xn_1e04ee16 xc_4a21075b rfl rfl xv_5015f191 rfl) hC2 ?_
          refine wk_return xd_775dfd7d xr_1524ee99 ⟨_, rfl, rd_S_tr hS8 hS2, ?_⟩
          rw [tx_tk_run hs (by omega) (by omega) han hre2]
          exact hR2
        · have h112_16 := aw_le_f (a := ((T q) : Int)) (b := (122 : Int)) (show (((cm_u1 (cm_u1 w9 2 8 (Int32.ofInt (-1))) 2 6 ((cm_u1 w9 2 8 (Int32.ofInt (-1))).1 2 4)).1 1 q)).toInt = ((T q) : Int) from hc0) (show (((Int8.ofInt 122).toInt32)).toInt = 122 from by decide) h112_16
          refine wk_iload_n xd_70d029a5 rfl ?_
          refine wk_bipush xd_c053b9a3 ?_
          refine wk_icmp xd_cc490dde (t := 132) rfl (fun h118_17 => ?_) (fun h118_17 => ?_)
          · have h118_17 := aw_lt_t (a := ((T q) : Int)) (b := (48 : Int)) (show (((cm_u1 (cm_u1 w9 2 8 (Int32.ofInt (-1))) 2 6 ((cm_u1 w9 2 8 (Int32.ofInt (-1))).1 2 4)).1 1 q)).toInt = ((T q) : Int) from hc0) (show (((Int8.ofInt 48).toInt32)).toInt = 48 from by decide) h118_17
            refine wk_aload_n xd_ff91fd09 rfl ?_
            refine wk_dup_r xd_1781b835 ?_
            refine wk_getI xf_7c4ceb86 xd_d8d2e388 ?_
            refine wk_iconst xd_104f9980 ?_
            refine aw_iadd (a := ((q : Int) : Int)) (b := (1 : Int)) (e := ((q : Int) + 1 : Int)) xd_16ba51bb (show (((cm_u1 (cm_u1 w9 2 8 (Int32.ofInt (-1))) 2 6 ((cm_u1 w9 2 8 (Int32.ofInt (-1))).1 2 4)).1 2 4)).toInt = ((q : Int) : Int) from hat) (show ((Int32.ofInt 1)).toInt = 1 from by decide) (by omega) (by omega) (by omega) (fun v19_ p19_ => ?_)
            refine wk_putI xf_5e4f7f32 (fun ci => wk_fitI ci) xd_133e06f3 ?_
            refine wk_aload_n xd_ce89ca7e rfl ?_
            refine wk_iload_n xd_7539a0a7 rfl ?_
            refine wk_putI xf_b4d7841d (fun ci => wk_fitI ci) xd_b014b399 ?_
            refine wk_aload_n xd_55a68139 rfl ?_
            refine wk_iload_n xd_0365dabc rfl ?_
            refine wk_bipush xd_a84c6346 ?_
            refine wk_icmp xd_b24acabb (t := 178) rfl (fun h151_19 => ?_) (fun h151_19 => ?_)
            · have h151_19 := aw_eq_t (a := ((T q) : Int)) (b := (59 : Int)) (show (((cm_u1 (cm_u1 w9 2 8 (Int32.ofInt (-1))) 2 6 ((cm_u1 w9 2 8 (Int32.ofInt (-1))).1 2 4)).1 1 q)).toInt = ((T q) : Int) from hc0) (show (((Int8.ofInt 59).toInt32)).toInt = 59 from by decide) h151_19
              refine wk_iconst xd_0469af23 ?_
              refine wk_goto xd_7c741bf1 (t := 183) rfl ?_
              refine wk_putI xf_f8656130 (fun ci => wk_fitI ci) xd_3f258136 ?_
              refine wk_return xd_9e81f065 xr_1524ee99 ⟨_, rfl, (rd_S_u1 (rd_S_u1 (rd_S_u1 (rd_S_u1 (rd_S_u1 hS (by omega) (by omega)) (by omega) (by omega)) (by omega) (by omega)) (by omega) (by omega)) (by omega) (by omega)), ?_⟩
              have hnan : ¬ (tx_Sm (T q) ∨ tx_Dg (T q)) := by
                intro h
                omega
              rw [tx_tk_sign hs (by omega) (by omega) hnan, if_pos (by omega)]
              exact ⟨((show (((cm_u1 (cm_u1 (cm_u1 (cm_u1 (cm_u1 w9 2 8 (Int32.ofInt (-1))) 2 6 ((cm_u1 w9 2 8 (Int32.ofInt (-1))).1 2 4)) 2 4 v19_) 2 10 ((cm_u1 (cm_u1 w9 2 8 (Int32.ofInt (-1))) 2 6 ((cm_u1 w9 2 8 (Int32.ofInt (-1))).1 2 4)).1 1 q)) 2 5 (Int32.ofInt 4)).1 2 6)).toInt = ((q : Int) : Int) from (show (((cm_u1 w9 2 8 (Int32.ofInt (-1))).1 2 4)).toInt = ((q : Int) : Int) from hat))).trans (by first | omega | rfl | (dsimp only; omega)), .inr (.inr (.inr (.inl ⟨rfl, ((show (((cm_u1 (cm_u1 (cm_u1 (cm_u1 (cm_u1 w9 2 8 (Int32.ofInt (-1))) 2 6 ((cm_u1 w9 2 8 (Int32.ofInt (-1))).1 2 4)) 2 4 v19_) 2 10 ((cm_u1 (cm_u1 w9 2 8 (Int32.ofInt (-1))) 2 6 ((cm_u1 w9 2 8 (Int32.ofInt (-1))).1 2 4)).1 1 q)) 2 5 (Int32.ofInt 4)).1 2 5)).toInt = (4 : Int) from (show ((Int32.ofInt 4)).toInt = 4 from by decide))).trans (by omega), ((show (((cm_u1 (cm_u1 (cm_u1 (cm_u1 (cm_u1 w9 2 8 (Int32.ofInt (-1))) 2 6 ((cm_u1 w9 2 8 (Int32.ofInt (-1))).1 2 4)) 2 4 v19_) 2 10 ((cm_u1 (cm_u1 w9 2 8 (Int32.ofInt (-1))) 2 6 ((cm_u1 w9 2 8 (Int32.ofInt (-1))).1 2 4)).1 1 q)) 2 5 (Int32.ofInt 4)).1 2 4)).toInt = ((q : Int) + 1 : Int) from p19_)).trans (by first | omega | rfl | (dsimp only; omega)), ((show (((cm_u1 (cm_u1 (cm_u1 (cm_u1 (cm_u1 w9 2 8 (Int32.ofInt (-1))) 2 6 ((cm_u1 w9 2 8 (Int32.ofInt (-1))).1 2 4)) 2 4 v19_) 2 10 ((cm_u1 (cm_u1 w9 2 8 (Int32.ofInt (-1))) 2 6 ((cm_u1 w9 2 8 (Int32.ofInt (-1))).1 2 4)).1 1 q)) 2 5 (Int32.ofInt 4)).1 2 8)).toInt = ((-1) : Int) from (show ((Int32.ofInt (-1))).toInt = (-1) from by decide))).trans (by omega), ((show (((cm_u1 (cm_u1 (cm_u1 (cm_u1 (cm_u1 w9 2 8 (Int32.ofInt (-1))) 2 6 ((cm_u1 w9 2 8 (Int32.ofInt (-1))).1 2 4)) 2 4 v19_) 2 10 ((cm_u1 (cm_u1 w9 2 8 (Int32.ofInt (-1))) 2 6 ((cm_u1 w9 2 8 (Int32.ofInt (-1))).1 2 4)).1 1 q)) 2 5 (Int32.ofInt 4)).1 2 10)).toInt = ((T q) : Int) from (show (((cm_u1 (cm_u1 w9 2 8 (Int32.ofInt (-1))) 2 6 ((cm_u1 w9 2 8 (Int32.ofInt (-1))).1 2 4)).1 1 q)).toInt = ((T q) : Int) from hc0))).trans (by first | omega | rfl | (dsimp only; omega))⟩)))⟩
            · have h151_19 := aw_eq_f (a := ((T q) : Int)) (b := (59 : Int)) (show (((cm_u1 (cm_u1 w9 2 8 (Int32.ofInt (-1))) 2 6 ((cm_u1 w9 2 8 (Int32.ofInt (-1))).1 2 4)).1 1 q)).toInt = ((T q) : Int) from hc0) (show (((Int8.ofInt 59).toInt32)).toInt = 59 from by decide) h151_19
              refine wk_iload_n xd_82a55d2e rfl ?_
              refine wk_bipush xd_efc05500 ?_
              refine wk_icmp xd_38b63155 (t := 178) rfl (fun h157_20 => ?_) (fun h157_20 => ?_)
              · have h157_20 := aw_eq_t (a := ((T q) : Int)) (b := (40 : Int)) (show (((cm_u1 (cm_u1 w9 2 8 (Int32.ofInt (-1))) 2 6 ((cm_u1 w9 2 8 (Int32.ofInt (-1))).1 2 4)).1 1 q)).toInt = ((T q) : Int) from hc0) (show (((Int8.ofInt 40).toInt32)).toInt = 40 from by decide) h157_20
                refine wk_iconst xd_0469af23 ?_
                refine wk_goto xd_7c741bf1 (t := 183) rfl ?_
                refine wk_putI xf_f8656130 (fun ci => wk_fitI ci) xd_3f258136 ?_
                refine wk_return xd_9e81f065 xr_1524ee99 ⟨_, rfl, (rd_S_u1 (rd_S_u1 (rd_S_u1 (rd_S_u1 (rd_S_u1 hS (by omega) (by omega)) (by omega) (by omega)) (by omega) (by omega)) (by omega) (by omega)) (by omega) (by omega)), ?_⟩
                have hnan : ¬ (tx_Sm (T q) ∨ tx_Dg (T q)) := by
                  intro h
                  omega
                rw [tx_tk_sign hs (by omega) (by omega) hnan, if_pos (by omega)]
                exact ⟨((show (((cm_u1 (cm_u1 (cm_u1 (cm_u1 (cm_u1 w9 2 8 (Int32.ofInt (-1))) 2 6 ((cm_u1 w9 2 8 (Int32.ofInt (-1))).1 2 4)) 2 4 v19_) 2 10 ((cm_u1 (cm_u1 w9 2 8 (Int32.ofInt (-1))) 2 6 ((cm_u1 w9 2 8 (Int32.ofInt (-1))).1 2 4)).1 1 q)) 2 5 (Int32.ofInt 4)).1 2 6)).toInt = ((q : Int) : Int) from (show (((cm_u1 w9 2 8 (Int32.ofInt (-1))).1 2 4)).toInt = ((q : Int) : Int) from hat))).trans (by first | omega | rfl | (dsimp only; omega)), .inr (.inr (.inr (.inl ⟨rfl, ((show (((cm_u1 (cm_u1 (cm_u1 (cm_u1 (cm_u1 w9 2 8 (Int32.ofInt (-1))) 2 6 ((cm_u1 w9 2 8 (Int32.ofInt (-1))).1 2 4)) 2 4 v19_) 2 10 ((cm_u1 (cm_u1 w9 2 8 (Int32.ofInt (-1))) 2 6 ((cm_u1 w9 2 8 (Int32.ofInt (-1))).1 2 4)).1 1 q)) 2 5 (Int32.ofInt 4)).1 2 5)).toInt = (4 : Int) from (show ((Int32.ofInt 4)).toInt = 4 from by decide))).trans (by omega), ((show (((cm_u1 (cm_u1 (cm_u1 (cm_u1 (cm_u1 w9 2 8 (Int32.ofInt (-1))) 2 6 ((cm_u1 w9 2 8 (Int32.ofInt (-1))).1 2 4)) 2 4 v19_) 2 10 ((cm_u1 (cm_u1 w9 2 8 (Int32.ofInt (-1))) 2 6 ((cm_u1 w9 2 8 (Int32.ofInt (-1))).1 2 4)).1 1 q)) 2 5 (Int32.ofInt 4)).1 2 4)).toInt = ((q : Int) + 1 : Int) from p19_)).trans (by first | omega | rfl | (dsimp only; omega)), ((show (((cm_u1 (cm_u1 (cm_u1 (cm_u1 (cm_u1 w9 2 8 (Int32.ofInt (-1))) 2 6 ((cm_u1 w9 2 8 (Int32.ofInt (-1))).1 2 4)) 2 4 v19_) 2 10 ((cm_u1 (cm_u1 w9 2 8 (Int32.ofInt (-1))) 2 6 ((cm_u1 w9 2 8 (Int32.ofInt (-1))).1 2 4)).1 1 q)) 2 5 (Int32.ofInt 4)).1 2 8)).toInt = ((-1) : Int) from (show ((Int32.ofInt (-1))).toInt = (-1) from by decide))).trans (by omega), ((show (((cm_u1 (cm_u1 (cm_u1 (cm_u1 (cm_u1 w9 2 8 (Int32.ofInt (-1))) 2 6 ((cm_u1 w9 2 8 (Int32.ofInt (-1))).1 2 4)) 2 4 v19_) 2 10 ((cm_u1 (cm_u1 w9 2 8 (Int32.ofInt (-1))) 2 6 ((cm_u1 w9 2 8 (Int32.ofInt (-1))).1 2 4)).1 1 q)) 2 5 (Int32.ofInt 4)).1 2 10)).toInt = ((T q) : Int) from (show (((cm_u1 (cm_u1 w9 2 8 (Int32.ofInt (-1))) 2 6 ((cm_u1 w9 2 8 (Int32.ofInt (-1))).1 2 4)).1 1 q)).toInt = ((T q) : Int) from hc0))).trans (by first | omega | rfl | (dsimp only; omega))⟩)))⟩
              · have h157_20 := aw_eq_f (a := ((T q) : Int)) (b := (40 : Int)) (show (((cm_u1 (cm_u1 w9 2 8 (Int32.ofInt (-1))) 2 6 ((cm_u1 w9 2 8 (Int32.ofInt (-1))).1 2 4)).1 1 q)).toInt = ((T q) : Int) from hc0) (show (((Int8.ofInt 40).toInt32)).toInt = 40 from by decide) h157_20
                refine wk_iload_n xd_dae75595 rfl ?_
                refine wk_bipush xd_8ae2740b ?_
                refine wk_icmp xd_e87d7a23 (t := 178) rfl (fun h163_21 => ?_) (fun h163_21 => ?_)
                · have h163_21 := aw_eq_t (a := ((T q) : Int)) (b := (41 : Int)) (show (((cm_u1 (cm_u1 w9 2 8 (Int32.ofInt (-1))) 2 6 ((cm_u1 w9 2 8 (Int32.ofInt (-1))).1 2 4)).1 1 q)).toInt = ((T q) : Int) from hc0) (show (((Int8.ofInt 41).toInt32)).toInt = 41 from by decide) h163_21
                  refine wk_iconst xd_0469af23 ?_
                  refine wk_goto xd_7c741bf1 (t := 183) rfl ?_
                  refine wk_putI xf_f8656130 (fun ci => wk_fitI ci) xd_3f258136 ?_
                  refine wk_return xd_9e81f065 xr_1524ee99 ⟨_, rfl, (rd_S_u1 (rd_S_u1 (rd_S_u1 (rd_S_u1 (rd_S_u1 hS (by omega) (by omega)) (by omega) (by omega)) (by omega) (by omega)) (by omega) (by omega)) (by omega) (by omega)), ?_⟩
                  have hnan : ¬ (tx_Sm (T q) ∨ tx_Dg (T q)) := by
                    intro h
                    omega
                  rw [tx_tk_sign hs (by omega) (by omega) hnan, if_pos (by omega)]
                  exact ⟨((show (((cm_u1 (cm_u1 (cm_u1 (cm_u1 (cm_u1 w9 2 8 (Int32.ofInt (-1))) 2 6 ((cm_u1 w9 2 8 (Int32.ofInt (-1))).1 2 4)) 2 4 v19_) 2 10 ((cm_u1 (cm_u1 w9 2 8 (Int32.ofInt (-1))) 2 6 ((cm_u1 w9 2 8 (Int32.ofInt (-1))).1 2 4)).1 1 q)) 2 5 (Int32.ofInt 4)).1 2 6)).toInt = ((q : Int) : Int) from (show (((cm_u1 w9 2 8 (Int32.ofInt (-1))).1 2 4)).toInt = ((q : Int) : Int) from hat))).trans (by first | omega | rfl | (dsimp only; omega)), .inr (.inr (.inr (.inl ⟨rfl, ((show (((cm_u1 (cm_u1 (cm_u1 (cm_u1 (cm_u1 w9 2 8 (Int32.ofInt (-1))) 2 6 ((cm_u1 w9 2 8 (Int32.ofInt (-1))).1 2 4)) 2 4 v19_) 2 10 ((cm_u1 (cm_u1 w9 2 8 (Int32.ofInt (-1))) 2 6 ((cm_u1 w9 2 8 (Int32.ofInt (-1))).1 2 4)).1 1 q)) 2 5 (Int32.ofInt 4)).1 2 5)).toInt = (4 : Int) from (show ((Int32.ofInt 4)).toInt = 4 from by decide))).trans (by omega), ((show (((cm_u1 (cm_u1 (cm_u1 (cm_u1 (cm_u1 w9 2 8 (Int32.ofInt (-1))) 2 6 ((cm_u1 w9 2 8 (Int32.ofInt (-1))).1 2 4)) 2 4 v19_) 2 10 ((cm_u1 (cm_u1 w9 2 8 (Int32.ofInt (-1))) 2 6 ((cm_u1 w9 2 8 (Int32.ofInt (-1))).1 2 4)).1 1 q)) 2 5 (Int32.ofInt 4)).1 2 4)).toInt = ((q : Int) + 1 : Int) from p19_)).trans (by first | omega | rfl | (dsimp only; omega)), ((show (((cm_u1 (cm_u1 (cm_u1 (cm_u1 (cm_u1 w9 2 8 (Int32.ofInt (-1))) 2 6 ((cm_u1 w9 2 8 (Int32.ofInt (-1))).1 2 4)) 2 4 v19_) 2 10 ((cm_u1 (cm_u1 w9 2 8 (Int32.ofInt (-1))) 2 6 ((cm_u1 w9 2 8 (Int32.ofInt (-1))).1 2 4)).1 1 q)) 2 5 (Int32.ofInt 4)).1 2 8)).toInt = ((-1) : Int) from (show ((Int32.ofInt (-1))).toInt = (-1) from by decide))).trans (by omega), ((show (((cm_u1 (cm_u1 (cm_u1 (cm_u1 (cm_u1 w9 2 8 (Int32.ofInt (-1))) 2 6 ((cm_u1 w9 2 8 (Int32.ofInt (-1))).1 2 4)) 2 4 v19_) 2 10 ((cm_u1 (cm_u1 w9 2 8 (Int32.ofInt (-1))) 2 6 ((cm_u1 w9 2 8 (Int32.ofInt (-1))).1 2 4)).1 1 q)) 2 5 (Int32.ofInt 4)).1 2 10)).toInt = ((T q) : Int) from (show (((cm_u1 (cm_u1 w9 2 8 (Int32.ofInt (-1))) 2 6 ((cm_u1 w9 2 8 (Int32.ofInt (-1))).1 2 4)).1 1 q)).toInt = ((T q) : Int) from hc0))).trans (by first | omega | rfl | (dsimp only; omega))⟩)))⟩
                · have h163_21 := aw_eq_f (a := ((T q) : Int)) (b := (41 : Int)) (show (((cm_u1 (cm_u1 w9 2 8 (Int32.ofInt (-1))) 2 6 ((cm_u1 w9 2 8 (Int32.ofInt (-1))).1 2 4)).1 1 q)).toInt = ((T q) : Int) from hc0) (show (((Int8.ofInt 41).toInt32)).toInt = 41 from by decide) h163_21
                  refine wk_iload_n xd_372d27ef rfl ?_
                  refine wk_bipush xd_17808eca ?_
                  refine wk_icmp xd_8dba256e (t := 182) rfl (fun h169_22 => ?_) (fun h169_22 => ?_)
                  · have h169_22 := aw_lt_t (a := ((T q) : Int)) (b := (60 : Int)) (show (((cm_u1 (cm_u1 w9 2 8 (Int32.ofInt (-1))) 2 6 ((cm_u1 w9 2 8 (Int32.ofInt (-1))).1 2 4)).1 1 q)).toInt = ((T q) : Int) from hc0) (show (((Int8.ofInt 60).toInt32)).toInt = 60 from by decide) h169_22
                    refine wk_iconst xd_2d9a145b ?_
                    refine wk_putI xf_f8656130 (fun ci => wk_fitI ci) xd_3f258136 ?_
                    refine wk_return xd_9e81f065 xr_1524ee99 ⟨_, rfl, (rd_S_u1 (rd_S_u1 (rd_S_u1 (rd_S_u1 (rd_S_u1 hS (by omega) (by omega)) (by omega) (by omega)) (by omega) (by omega)) (by omega) (by omega)) (by omega) (by omega)), ?_⟩
                    have hnan : ¬ (tx_Sm (T q) ∨ tx_Dg (T q)) := by
                      intro h
                      omega
                    rw [tx_tk_sign hs (by omega) (by omega) hnan, if_neg (by omega)]
                    exact ⟨((show (((cm_u1 (cm_u1 (cm_u1 (cm_u1 (cm_u1 w9 2 8 (Int32.ofInt (-1))) 2 6 ((cm_u1 w9 2 8 (Int32.ofInt (-1))).1 2 4)) 2 4 v19_) 2 10 ((cm_u1 (cm_u1 w9 2 8 (Int32.ofInt (-1))) 2 6 ((cm_u1 w9 2 8 (Int32.ofInt (-1))).1 2 4)).1 1 q)) 2 5 (Int32.ofInt 1)).1 2 6)).toInt = ((q : Int) : Int) from (show (((cm_u1 w9 2 8 (Int32.ofInt (-1))).1 2 4)).toInt = ((q : Int) : Int) from hat))).trans (by first | omega | rfl | (dsimp only; omega)), .inr (.inr (.inr (.inr ⟨rfl, ((show (((cm_u1 (cm_u1 (cm_u1 (cm_u1 (cm_u1 w9 2 8 (Int32.ofInt (-1))) 2 6 ((cm_u1 w9 2 8 (Int32.ofInt (-1))).1 2 4)) 2 4 v19_) 2 10 ((cm_u1 (cm_u1 w9 2 8 (Int32.ofInt (-1))) 2 6 ((cm_u1 w9 2 8 (Int32.ofInt (-1))).1 2 4)).1 1 q)) 2 5 (Int32.ofInt 1)).1 2 8)).toInt = ((-1) : Int) from (show ((Int32.ofInt (-1))).toInt = (-1) from by decide))).trans (by omega), .inl (((show (((cm_u1 (cm_u1 (cm_u1 (cm_u1 (cm_u1 w9 2 8 (Int32.ofInt (-1))) 2 6 ((cm_u1 w9 2 8 (Int32.ofInt (-1))).1 2 4)) 2 4 v19_) 2 10 ((cm_u1 (cm_u1 w9 2 8 (Int32.ofInt (-1))) 2 6 ((cm_u1 w9 2 8 (Int32.ofInt (-1))).1 2 4)).1 1 q)) 2 5 (Int32.ofInt 1)).1 2 5)).toInt = (1 : Int) from (show ((Int32.ofInt 1)).toInt = 1 from by decide))).trans (by omega))⟩)))⟩
                  · have h169_22 := aw_lt_f (a := ((T q) : Int)) (b := (60 : Int)) (show (((cm_u1 (cm_u1 w9 2 8 (Int32.ofInt (-1))) 2 6 ((cm_u1 w9 2 8 (Int32.ofInt (-1))).1 2 4)).1 1 q)).toInt = ((T q) : Int) from hc0) (show (((Int8.ofInt 60).toInt32)).toInt = 60 from by decide) h169_22
                    refine wk_iload_n xd_b654e35b rfl ?_
                    refine wk_bipush xd_ec39191e ?_
                    refine wk_icmp xd_50f34471 (t := 182) rfl (fun h175_23 => ?_) (fun h175_23 => ?_)
                    · have h175_23 := aw_gt_t (a := ((T q) : Int)) (b := (62 : Int)) (show (((cm_u1 (cm_u1 w9 2 8 (Int32.ofInt (-1))) 2 6 ((cm_u1 w9 2 8 (Int32.ofInt (-1))).1 2 4)).1 1 q)).toInt = ((T q) : Int) from hc0) (show (((Int8.ofInt 62).toInt32)).toInt = 62 from by decide) h175_23
                      refine wk_iconst xd_2d9a145b ?_
                      refine wk_putI xf_f8656130 (fun ci => wk_fitI ci) xd_3f258136 ?_
                      refine wk_return xd_9e81f065 xr_1524ee99 ⟨_, rfl, (rd_S_u1 (rd_S_u1 (rd_S_u1 (rd_S_u1 (rd_S_u1 hS (by omega) (by omega)) (by omega) (by omega)) (by omega) (by omega)) (by omega) (by omega)) (by omega) (by omega)), ?_⟩
                      have hnan : ¬ (tx_Sm (T q) ∨ tx_Dg (T q)) := by
                        intro h
                        omega
                      rw [tx_tk_sign hs (by omega) (by omega) hnan, if_neg (by omega)]
                      exact ⟨((show (((cm_u1 (cm_u1 (cm_u1 (cm_u1 (cm_u1 w9 2 8 (Int32.ofInt (-1))) 2 6 ((cm_u1 w9 2 8 (Int32.ofInt (-1))).1 2 4)) 2 4 v19_) 2 10 ((cm_u1 (cm_u1 w9 2 8 (Int32.ofInt (-1))) 2 6 ((cm_u1 w9 2 8 (Int32.ofInt (-1))).1 2 4)).1 1 q)) 2 5 (Int32.ofInt 1)).1 2 6)).toInt = ((q : Int) : Int) from (show (((cm_u1 w9 2 8 (Int32.ofInt (-1))).1 2 4)).toInt = ((q : Int) : Int) from hat))).trans (by first | omega | rfl | (dsimp only; omega)), .inr (.inr (.inr (.inr ⟨rfl, ((show (((cm_u1 (cm_u1 (cm_u1 (cm_u1 (cm_u1 w9 2 8 (Int32.ofInt (-1))) 2 6 ((cm_u1 w9 2 8 (Int32.ofInt (-1))).1 2 4)) 2 4 v19_) 2 10 ((cm_u1 (cm_u1 w9 2 8 (Int32.ofInt (-1))) 2 6 ((cm_u1 w9 2 8 (Int32.ofInt (-1))).1 2 4)).1 1 q)) 2 5 (Int32.ofInt 1)).1 2 8)).toInt = ((-1) : Int) from (show ((Int32.ofInt (-1))).toInt = (-1) from by decide))).trans (by omega), .inl (((show (((cm_u1 (cm_u1 (cm_u1 (cm_u1 (cm_u1 w9 2 8 (Int32.ofInt (-1))) 2 6 ((cm_u1 w9 2 8 (Int32.ofInt (-1))).1 2 4)) 2 4 v19_) 2 10 ((cm_u1 (cm_u1 w9 2 8 (Int32.ofInt (-1))) 2 6 ((cm_u1 w9 2 8 (Int32.ofInt (-1))).1 2 4)).1 1 q)) 2 5 (Int32.ofInt 1)).1 2 5)).toInt = (1 : Int) from (show ((Int32.ofInt 1)).toInt = 1 from by decide))).trans (by omega))⟩)))⟩
                    · have h175_23 := aw_gt_f (a := ((T q) : Int)) (b := (62 : Int)) (show (((cm_u1 (cm_u1 w9 2 8 (Int32.ofInt (-1))) 2 6 ((cm_u1 w9 2 8 (Int32.ofInt (-1))).1 2 4)).1 1 q)).toInt = ((T q) : Int) from hc0) (show (((Int8.ofInt 62).toInt32)).toInt = 62 from by decide) h175_23
                      refine wk_iconst xd_0469af23 ?_
                      refine wk_goto xd_7c741bf1 (t := 183) rfl ?_
                      refine wk_putI xf_f8656130 (fun ci => wk_fitI ci) xd_3f258136 ?_
                      refine wk_return xd_9e81f065 xr_1524ee99 ⟨_, rfl, (rd_S_u1 (rd_S_u1 (rd_S_u1 (rd_S_u1 (rd_S_u1 hS (by omega) (by omega)) (by omega) (by omega)) (by omega) (by omega)) (by omega) (by omega)) (by omega) (by omega)), ?_⟩
                      have hnan : ¬ (tx_Sm (T q) ∨ tx_Dg (T q)) := by
                        intro h
                        omega
                      rw [tx_tk_sign hs (by omega) (by omega) hnan, if_pos (by omega)]
                      exact ⟨((show (((cm_u1 (cm_u1 (cm_u1 (cm_u1 (cm_u1 w9 2 8 (Int32.ofInt (-1))) 2 6 ((cm_u1 w9 2 8 (Int32.ofInt (-1))).1 2 4)) 2 4 v19_) 2 10 ((cm_u1 (cm_u1 w9 2 8 (Int32.ofInt (-1))) 2 6 ((cm_u1 w9 2 8 (Int32.ofInt (-1))).1 2 4)).1 1 q)) 2 5 (Int32.ofInt 4)).1 2 6)).toInt = ((q : Int) : Int) from (show (((cm_u1 w9 2 8 (Int32.ofInt (-1))).1 2 4)).toInt = ((q : Int) : Int) from hat))).trans (by first | omega | rfl | (dsimp only; omega)), .inr (.inr (.inr (.inl ⟨rfl, ((show (((cm_u1 (cm_u1 (cm_u1 (cm_u1 (cm_u1 w9 2 8 (Int32.ofInt (-1))) 2 6 ((cm_u1 w9 2 8 (Int32.ofInt (-1))).1 2 4)) 2 4 v19_) 2 10 ((cm_u1 (cm_u1 w9 2 8 (Int32.ofInt (-1))) 2 6 ((cm_u1 w9 2 8 (Int32.ofInt (-1))).1 2 4)).1 1 q)) 2 5 (Int32.ofInt 4)).1 2 5)).toInt = (4 : Int) from (show ((Int32.ofInt 4)).toInt = 4 from by decide))).trans (by omega), ((show (((cm_u1 (cm_u1 (cm_u1 (cm_u1 (cm_u1 w9 2 8 (Int32.ofInt (-1))) 2 6 ((cm_u1 w9 2 8 (Int32.ofInt (-1))).1 2 4)) 2 4 v19_) 2 10 ((cm_u1 (cm_u1 w9 2 8 (Int32.ofInt (-1))) 2 6 ((cm_u1 w9 2 8 (Int32.ofInt (-1))).1 2 4)).1 1 q)) 2 5 (Int32.ofInt 4)).1 2 4)).toInt = ((q : Int) + 1 : Int) from p19_)).trans (by first | omega | rfl | (dsimp only; omega)), ((show (((cm_u1 (cm_u1 (cm_u1 (cm_u1 (cm_u1 w9 2 8 (Int32.ofInt (-1))) 2 6 ((cm_u1 w9 2 8 (Int32.ofInt (-1))).1 2 4)) 2 4 v19_) 2 10 ((cm_u1 (cm_u1 w9 2 8 (Int32.ofInt (-1))) 2 6 ((cm_u1 w9 2 8 (Int32.ofInt (-1))).1 2 4)).1 1 q)) 2 5 (Int32.ofInt 4)).1 2 8)).toInt = ((-1) : Int) from (show ((Int32.ofInt (-1))).toInt = (-1) from by decide))).trans (by omega), ((show (((cm_u1 (cm_u1 (cm_u1 (cm_u1 (cm_u1 w9 2 8 (Int32.ofInt (-1))) 2 6 ((cm_u1 w9 2 8 (Int32.ofInt (-1))).1 2 4)) 2 4 v19_) 2 10 ((cm_u1 (cm_u1 w9 2 8 (Int32.ofInt (-1))) 2 6 ((cm_u1 w9 2 8 (Int32.ofInt (-1))).1 2 4)).1 1 q)) 2 5 (Int32.ofInt 4)).1 2 10)).toInt = ((T q) : Int) from (show (((cm_u1 (cm_u1 w9 2 8 (Int32.ofInt (-1))) 2 6 ((cm_u1 w9 2 8 (Int32.ofInt (-1))).1 2 4)).1 1 q)).toInt = ((T q) : Int) from hc0))).trans (by first | omega | rfl | (dsimp only; omega))⟩)))⟩
          · have h118_17 := aw_lt_f (a := ((T q) : Int)) (b := (48 : Int)) (show (((cm_u1 (cm_u1 w9 2 8 (Int32.ofInt (-1))) 2 6 ((cm_u1 w9 2 8 (Int32.ofInt (-1))).1 2 4)).1 1 q)).toInt = ((T q) : Int) from hc0) (show (((Int8.ofInt 48).toInt32)).toInt = 48 from by decide) h118_17
            refine wk_iload_n xd_2892211e rfl ?_
            refine wk_bipush xd_d11df56c ?_
            refine wk_icmp xd_bb4dc188 (t := 132) rfl (fun h124_24 => ?_) (fun h124_24 => ?_)
            · have h124_24 := aw_gt_t (a := ((T q) : Int)) (b := (57 : Int)) (show (((cm_u1 (cm_u1 w9 2 8 (Int32.ofInt (-1))) 2 6 ((cm_u1 w9 2 8 (Int32.ofInt (-1))).1 2 4)).1 1 q)).toInt = ((T q) : Int) from hc0) (show (((Int8.ofInt 57).toInt32)).toInt = 57 from by decide) h124_24
              refine wk_aload_n xd_ff91fd09 rfl ?_
              refine wk_dup_r xd_1781b835 ?_
              refine wk_getI xf_7c4ceb86 xd_d8d2e388 ?_
              refine wk_iconst xd_104f9980 ?_
              refine aw_iadd (a := ((q : Int) : Int)) (b := (1 : Int)) (e := ((q : Int) + 1 : Int)) xd_16ba51bb (show (((cm_u1 (cm_u1 w9 2 8 (Int32.ofInt (-1))) 2 6 ((cm_u1 w9 2 8 (Int32.ofInt (-1))).1 2 4)).1 2 4)).toInt = ((q : Int) : Int) from hat) (show ((Int32.ofInt 1)).toInt = 1 from by decide) (by omega) (by omega) (by omega) (fun v26_ p26_ => ?_)
              refine wk_putI xf_5e4f7f32 (fun ci => wk_fitI ci) xd_133e06f3 ?_
              refine wk_aload_n xd_ce89ca7e rfl ?_
              refine wk_iload_n xd_7539a0a7 rfl ?_
              refine wk_putI xf_b4d7841d (fun ci => wk_fitI ci) xd_b014b399 ?_
              refine wk_aload_n xd_55a68139 rfl ?_
              refine wk_iload_n xd_0365dabc rfl ?_
              refine wk_bipush xd_a84c6346 ?_
              refine wk_icmp xd_b24acabb (t := 178) rfl (fun h151_26 => ?_) (fun h151_26 => ?_)
              · have h151_26 := aw_eq_t (a := ((T q) : Int)) (b := (59 : Int)) (show (((cm_u1 (cm_u1 w9 2 8 (Int32.ofInt (-1))) 2 6 ((cm_u1 w9 2 8 (Int32.ofInt (-1))).1 2 4)).1 1 q)).toInt = ((T q) : Int) from hc0) (show (((Int8.ofInt 59).toInt32)).toInt = 59 from by decide) h151_26
                refine wk_iconst xd_0469af23 ?_
                refine wk_goto xd_7c741bf1 (t := 183) rfl ?_
                refine wk_putI xf_f8656130 (fun ci => wk_fitI ci) xd_3f258136 ?_
                refine wk_return xd_9e81f065 xr_1524ee99 ⟨_, rfl, (rd_S_u1 (rd_S_u1 (rd_S_u1 (rd_S_u1 (rd_S_u1 hS (by omega) (by omega)) (by omega) (by omega)) (by omega) (by omega)) (by omega) (by omega)) (by omega) (by omega)), ?_⟩
                have hnan : ¬ (tx_Sm (T q) ∨ tx_Dg (T q)) := by
                  intro h
                  omega
                rw [tx_tk_sign hs (by omega) (by omega) hnan, if_pos (by omega)]
                exact ⟨((show (((cm_u1 (cm_u1 (cm_u1 (cm_u1 (cm_u1 w9 2 8 (Int32.ofInt (-1))) 2 6 ((cm_u1 w9 2 8 (Int32.ofInt (-1))).1 2 4)) 2 4 v26_) 2 10 ((cm_u1 (cm_u1 w9 2 8 (Int32.ofInt (-1))) 2 6 ((cm_u1 w9 2 8 (Int32.ofInt (-1))).1 2 4)).1 1 q)) 2 5 (Int32.ofInt 4)).1 2 6)).toInt = ((q : Int) : Int) from (show (((cm_u1 w9 2 8 (Int32.ofInt (-1))).1 2 4)).toInt = ((q : Int) : Int) from hat))).trans (by first | omega | rfl | (dsimp only; omega)), .inr (.inr (.inr (.inl ⟨rfl, ((show (((cm_u1 (cm_u1 (cm_u1 (cm_u1 (cm_u1 w9 2 8 (Int32.ofInt (-1))) 2 6 ((cm_u1 w9 2 8 (Int32.ofInt (-1))).1 2 4)) 2 4 v26_) 2 10 ((cm_u1 (cm_u1 w9 2 8 (Int32.ofInt (-1))) 2 6 ((cm_u1 w9 2 8 (Int32.ofInt (-1))).1 2 4)).1 1 q)) 2 5 (Int32.ofInt 4)).1 2 5)).toInt = (4 : Int) from (show ((Int32.ofInt 4)).toInt = 4 from by decide))).trans (by omega), ((show (((cm_u1 (cm_u1 (cm_u1 (cm_u1 (cm_u1 w9 2 8 (Int32.ofInt (-1))) 2 6 ((cm_u1 w9 2 8 (Int32.ofInt (-1))).1 2 4)) 2 4 v26_) 2 10 ((cm_u1 (cm_u1 w9 2 8 (Int32.ofInt (-1))) 2 6 ((cm_u1 w9 2 8 (Int32.ofInt (-1))).1 2 4)).1 1 q)) 2 5 (Int32.ofInt 4)).1 2 4)).toInt = ((q : Int) + 1 : Int) from p26_)).trans (by first | omega | rfl | (dsimp only; omega)), ((show (((cm_u1 (cm_u1 (cm_u1 (cm_u1 (cm_u1 w9 2 8 (Int32.ofInt (-1))) 2 6 ((cm_u1 w9 2 8 (Int32.ofInt (-1))).1 2 4)) 2 4 v26_) 2 10 ((cm_u1 (cm_u1 w9 2 8 (Int32.ofInt (-1))) 2 6 ((cm_u1 w9 2 8 (Int32.ofInt (-1))).1 2 4)).1 1 q)) 2 5 (Int32.ofInt 4)).1 2 8)).toInt = ((-1) : Int) from (show ((Int32.ofInt (-1))).toInt = (-1) from by decide))).trans (by omega), ((show (((cm_u1 (cm_u1 (cm_u1 (cm_u1 (cm_u1 w9 2 8 (Int32.ofInt (-1))) 2 6 ((cm_u1 w9 2 8 (Int32.ofInt (-1))).1 2 4)) 2 4 v26_) 2 10 ((cm_u1 (cm_u1 w9 2 8 (Int32.ofInt (-1))) 2 6 ((cm_u1 w9 2 8 (Int32.ofInt (-1))).1 2 4)).1 1 q)) 2 5 (Int32.ofInt 4)).1 2 10)).toInt = ((T q) : Int) from (show (((cm_u1 (cm_u1 w9 2 8 (Int32.ofInt (-1))) 2 6 ((cm_u1 w9 2 8 (Int32.ofInt (-1))).1 2 4)).1 1 q)).toInt = ((T q) : Int) from hc0))).trans (by first | omega | rfl | (dsimp only; omega))⟩)))⟩
              · have h151_26 := aw_eq_f (a := ((T q) : Int)) (b := (59 : Int)) (show (((cm_u1 (cm_u1 w9 2 8 (Int32.ofInt (-1))) 2 6 ((cm_u1 w9 2 8 (Int32.ofInt (-1))).1 2 4)).1 1 q)).toInt = ((T q) : Int) from hc0) (show (((Int8.ofInt 59).toInt32)).toInt = 59 from by decide) h151_26
                refine wk_iload_n xd_82a55d2e rfl ?_
                refine wk_bipush xd_efc05500 ?_
                refine wk_icmp xd_38b63155 (t := 178) rfl (fun h157_27 => ?_) (fun h157_27 => ?_)
                · have h157_27 := aw_eq_t (a := ((T q) : Int)) (b := (40 : Int)) (show (((cm_u1 (cm_u1 w9 2 8 (Int32.ofInt (-1))) 2 6 ((cm_u1 w9 2 8 (Int32.ofInt (-1))).1 2 4)).1 1 q)).toInt = ((T q) : Int) from hc0) (show (((Int8.ofInt 40).toInt32)).toInt = 40 from by decide) h157_27
                  refine wk_iconst xd_0469af23 ?_
                  refine wk_goto xd_7c741bf1 (t := 183) rfl ?_
                  refine wk_putI xf_f8656130 (fun ci => wk_fitI ci) xd_3f258136 ?_
                  refine wk_return xd_9e81f065 xr_1524ee99 ⟨_, rfl, (rd_S_u1 (rd_S_u1 (rd_S_u1 (rd_S_u1 (rd_S_u1 hS (by omega) (by omega)) (by omega) (by omega)) (by omega) (by omega)) (by omega) (by omega)) (by omega) (by omega)), ?_⟩
                  have hnan : ¬ (tx_Sm (T q) ∨ tx_Dg (T q)) := by
                    intro h
                    omega
                  rw [tx_tk_sign hs (by omega) (by omega) hnan, if_pos (by omega)]
                  exact ⟨((show (((cm_u1 (cm_u1 (cm_u1 (cm_u1 (cm_u1 w9 2 8 (Int32.ofInt (-1))) 2 6 ((cm_u1 w9 2 8 (Int32.ofInt (-1))).1 2 4)) 2 4 v26_) 2 10 ((cm_u1 (cm_u1 w9 2 8 (Int32.ofInt (-1))) 2 6 ((cm_u1 w9 2 8 (Int32.ofInt (-1))).1 2 4)).1 1 q)) 2 5 (Int32.ofInt 4)).1 2 6)).toInt = ((q : Int) : Int) from (show (((cm_u1 w9 2 8 (Int32.ofInt (-1))).1 2 4)).toInt = ((q : Int) : Int) from hat))).trans (by first | omega | rfl | (dsimp only; omega)), .inr (.inr (.inr (.inl ⟨rfl, ((show (((cm_u1 (cm_u1 (cm_u1 (cm_u1 (cm_u1 w9 2 8 (Int32.ofInt (-1))) 2 6 ((cm_u1 w9 2 8 (Int32.ofInt (-1))).1 2 4)) 2 4 v26_) 2 10 ((cm_u1 (cm_u1 w9 2 8 (Int32.ofInt (-1))) 2 6 ((cm_u1 w9 2 8 (Int32.ofInt (-1))).1 2 4)).1 1 q)) 2 5 (Int32.ofInt 4)).1 2 5)).toInt = (4 : Int) from (show ((Int32.ofInt 4)).toInt = 4 from by decide))).trans (by omega), ((show (((cm_u1 (cm_u1 (cm_u1 (cm_u1 (cm_u1 w9 2 8 (Int32.ofInt (-1))) 2 6 ((cm_u1 w9 2 8 (Int32.ofInt (-1))).1 2 4)) 2 4 v26_) 2 10 ((cm_u1 (cm_u1 w9 2 8 (Int32.ofInt (-1))) 2 6 ((cm_u1 w9 2 8 (Int32.ofInt (-1))).1 2 4)).1 1 q)) 2 5 (Int32.ofInt 4)).1 2 4)).toInt = ((q : Int) + 1 : Int) from p26_)).trans (by first | omega | rfl | (dsimp only; omega)), ((show (((cm_u1 (cm_u1 (cm_u1 (cm_u1 (cm_u1 w9 2 8 (Int32.ofInt (-1))) 2 6 ((cm_u1 w9 2 8 (Int32.ofInt (-1))).1 2 4)) 2 4 v26_) 2 10 ((cm_u1 (cm_u1 w9 2 8 (Int32.ofInt (-1))) 2 6 ((cm_u1 w9 2 8 (Int32.ofInt (-1))).1 2 4)).1 1 q)) 2 5 (Int32.ofInt 4)).1 2 8)).toInt = ((-1) : Int) from (show ((Int32.ofInt (-1))).toInt = (-1) from by decide))).trans (by omega), ((show (((cm_u1 (cm_u1 (cm_u1 (cm_u1 (cm_u1 w9 2 8 (Int32.ofInt (-1))) 2 6 ((cm_u1 w9 2 8 (Int32.ofInt (-1))).1 2 4)) 2 4 v26_) 2 10 ((cm_u1 (cm_u1 w9 2 8 (Int32.ofInt (-1))) 2 6 ((cm_u1 w9 2 8 (Int32.ofInt (-1))).1 2 4)).1 1 q)) 2 5 (Int32.ofInt 4)).1 2 10)).toInt = ((T q) : Int) from (show (((cm_u1 (cm_u1 w9 2 8 (Int32.ofInt (-1))) 2 6 ((cm_u1 w9 2 8 (Int32.ofInt (-1))).1 2 4)).1 1 q)).toInt = ((T q) : Int) from hc0))).trans (by first | omega | rfl | (dsimp only; omega))⟩)))⟩
                · have h157_27 := aw_eq_f (a := ((T q) : Int)) (b := (40 : Int)) (show (((cm_u1 (cm_u1 w9 2 8 (Int32.ofInt (-1))) 2 6 ((cm_u1 w9 2 8 (Int32.ofInt (-1))).1 2 4)).1 1 q)).toInt = ((T q) : Int) from hc0) (show (((Int8.ofInt 40).toInt32)).toInt = 40 from by decide) h157_27
                  refine wk_iload_n xd_dae75595 rfl ?_
                  refine wk_bipush xd_8ae2740b ?_
                  refine wk_icmp xd_e87d7a23 (t := 178) rfl (fun h163_28 => ?_) (fun h163_28 => ?_)
                  · have h163_28 := aw_eq_t (a := ((T q) : Int)) (b := (41 : Int)) (show (((cm_u1 (cm_u1 w9 2 8 (Int32.ofInt (-1))) 2 6 ((cm_u1 w9 2 8 (Int32.ofInt (-1))).1 2 4)).1 1 q)).toInt = ((T q) : Int) from hc0) (show (((Int8.ofInt 41).toInt32)).toInt = 41 from by decide) h163_28
                    refine wk_iconst xd_0469af23 ?_
                    refine wk_goto xd_7c741bf1 (t := 183) rfl ?_
                    refine wk_putI xf_f8656130 (fun ci => wk_fitI ci) xd_3f258136 ?_
                    refine wk_return xd_9e81f065 xr_1524ee99 ⟨_, rfl, (rd_S_u1 (rd_S_u1 (rd_S_u1 (rd_S_u1 (rd_S_u1 hS (by omega) (by omega)) (by omega) (by omega)) (by omega) (by omega)) (by omega) (by omega)) (by omega) (by omega)), ?_⟩
                    have hnan : ¬ (tx_Sm (T q) ∨ tx_Dg (T q)) := by
                      intro h
                      omega
                    rw [tx_tk_sign hs (by omega) (by omega) hnan, if_pos (by omega)]
                    exact ⟨((show (((cm_u1 (cm_u1 (cm_u1 (cm_u1 (cm_u1 w9 2 8 (Int32.ofInt (-1))) 2 6 ((cm_u1 w9 2 8 (Int32.ofInt (-1))).1 2 4)) 2 4 v26_) 2 10 ((cm_u1 (cm_u1 w9 2 8 (Int32.ofInt (-1))) 2 6 ((cm_u1 w9 2 8 (Int32.ofInt (-1))).1 2 4)).1 1 q)) 2 5 (Int32.ofInt 4)).1 2 6)).toInt = ((q : Int) : Int) from (show (((cm_u1 w9 2 8 (Int32.ofInt (-1))).1 2 4)).toInt = ((q : Int) : Int) from hat))).trans (by first | omega | rfl | (dsimp only; omega)), .inr (.inr (.inr (.inl ⟨rfl, ((show (((cm_u1 (cm_u1 (cm_u1 (cm_u1 (cm_u1 w9 2 8 (Int32.ofInt (-1))) 2 6 ((cm_u1 w9 2 8 (Int32.ofInt (-1))).1 2 4)) 2 4 v26_) 2 10 ((cm_u1 (cm_u1 w9 2 8 (Int32.ofInt (-1))) 2 6 ((cm_u1 w9 2 8 (Int32.ofInt (-1))).1 2 4)).1 1 q)) 2 5 (Int32.ofInt 4)).1 2 5)).toInt = (4 : Int) from (show ((Int32.ofInt 4)).toInt = 4 from by decide))).trans (by omega), ((show (((cm_u1 (cm_u1 (cm_u1 (cm_u1 (cm_u1 w9 2 8 (Int32.ofInt (-1))) 2 6 ((cm_u1 w9 2 8 (Int32.ofInt (-1))).1 2 4)) 2 4 v26_) 2 10 ((cm_u1 (cm_u1 w9 2 8 (Int32.ofInt (-1))) 2 6 ((cm_u1 w9 2 8 (Int32.ofInt (-1))).1 2 4)).1 1 q)) 2 5 (Int32.ofInt 4)).1 2 4)).toInt = ((q : Int) + 1 : Int) from p26_)).trans (by first | omega | rfl | (dsimp only; omega)), ((show (((cm_u1 (cm_u1 (cm_u1 (cm_u1 (cm_u1 w9 2 8 (Int32.ofInt (-1))) 2 6 ((cm_u1 w9 2 8 (Int32.ofInt (-1))).1 2 4)) 2 4 v26_) 2 10 ((cm_u1 (cm_u1 w9 2 8 (Int32.ofInt (-1))) 2 6 ((cm_u1 w9 2 8 (Int32.ofInt (-1))).1 2 4)).1 1 q)) 2 5 (Int32.ofInt 4)).1 2 8)).toInt = ((-1) : Int) from (show ((Int32.ofInt (-1))).toInt = (-1) from by decide))).trans (by omega), ((show (((cm_u1 (cm_u1 (cm_u1 (cm_u1 (cm_u1 w9 2 8 (Int32.ofInt (-1))) 2 6 ((cm_u1 w9 2 8 (Int32.ofInt (-1))).1 2 4)) 2 4 v26_) 2 10 ((cm_u1 (cm_u1 w9 2 8 (Int32.ofInt (-1))) 2 6 ((cm_u1 w9 2 8 (Int32.ofInt (-1))).1 2 4)).1 1 q)) 2 5 (Int32.ofInt 4)).1 2 10)).toInt = ((T q) : Int) from (show (((cm_u1 (cm_u1 w9 2 8 (Int32.ofInt (-1))) 2 6 ((cm_u1 w9 2 8 (Int32.ofInt (-1))).1 2 4)).1 1 q)).toInt = ((T q) : Int) from hc0))).trans (by first | omega | rfl | (dsimp only; omega))⟩)))⟩
                  · have h163_28 := aw_eq_f (a := ((T q) : Int)) (b := (41 : Int)) (show (((cm_u1 (cm_u1 w9 2 8 (Int32.ofInt (-1))) 2 6 ((cm_u1 w9 2 8 (Int32.ofInt (-1))).1 2 4)).1 1 q)).toInt = ((T q) : Int) from hc0) (show (((Int8.ofInt 41).toInt32)).toInt = 41 from by decide) h163_28
                    refine wk_iload_n xd_372d27ef rfl ?_
                    refine wk_bipush xd_17808eca ?_
                    refine wk_icmp xd_8dba256e (t := 182) rfl (fun h169_29 => ?_) (fun h169_29 => ?_)
                    · have h169_29 := aw_lt_t (a := ((T q) : Int)) (b := (60 : Int)) (show (((cm_u1 (cm_u1 w9 2 8 (Int32.ofInt (-1))) 2 6 ((cm_u1 w9 2 8 (Int32.ofInt (-1))).1 2 4)).1 1 q)).toInt = ((T q) : Int) from hc0) (show (((Int8.ofInt 60).toInt32)).toInt = 60 from by decide) h169_29
                      refine wk_iconst xd_2d9a145b ?_
                      refine wk_putI xf_f8656130 (fun ci => wk_fitI ci) xd_3f258136 ?_
                      refine wk_return xd_9e81f065 xr_1524ee99 ⟨_, rfl, (rd_S_u1 (rd_S_u1 (rd_S_u1 (rd_S_u1 (rd_S_u1 hS (by omega) (by omega)) (by omega) (by omega)) (by omega) (by omega)) (by omega) (by omega)) (by omega) (by omega)), ?_⟩
                      have hnan : ¬ (tx_Sm (T q) ∨ tx_Dg (T q)) := by
                        intro h
                        omega
                      rw [tx_tk_sign hs (by omega) (by omega) hnan, if_neg (by omega)]
                      exact ⟨((show (((cm_u1 (cm_u1 (cm_u1 (cm_u1 (cm_u1 w9 2 8 (Int32.ofInt (-1))) 2 6 ((cm_u1 w9 2 8 (Int32.ofInt (-1))).1 2 4)) 2 4 v26_) 2 10 ((cm_u1 (cm_u1 w9 2 8 (Int32.ofInt (-1))) 2 6 ((cm_u1 w9 2 8 (Int32.ofInt (-1))).1 2 4)).1 1 q)) 2 5 (Int32.ofInt 1)).1 2 6)).toInt = ((q : Int) : Int) from (show (((cm_u1 w9 2 8 (Int32.ofInt (-1))).1 2 4)).toInt = ((q : Int) : Int) from hat))).trans (by first | omega | rfl | (dsimp only; omega)), .inr (.inr (.inr (.inr ⟨rfl, ((show (((cm_u1 (cm_u1 (cm_u1 (cm_u1 (cm_u1 w9 2 8 (Int32.ofInt (-1))) 2 6 ((cm_u1 w9 2 8 (Int32.ofInt (-1))).1 2 4)) 2 4 v26_) 2 10 ((cm_u1 (cm_u1 w9 2 8 (Int32.ofInt (-1))) 2 6 ((cm_u1 w9 2 8 (Int32.ofInt (-1))).1 2 4)).1 1 q)) 2 5 (Int32.ofInt 1)).1 2 8)).toInt = ((-1) : Int) from (show ((Int32.ofInt (-1))).toInt = (-1) from by decide))).trans (by omega), .inl (((show (((cm_u1 (cm_u1 (cm_u1 (cm_u1 (cm_u1 w9 2 8 (Int32.ofInt (-1))) 2 6 ((cm_u1 w9 2 8 (Int32.ofInt (-1))).1 2 4)) 2 4 v26_) 2 10 ((cm_u1 (cm_u1 w9 2 8 (Int32.ofInt (-1))) 2 6 ((cm_u1 w9 2 8 (Int32.ofInt (-1))).1 2 4)).1 1 q)) 2 5 (Int32.ofInt 1)).1 2 5)).toInt = (1 : Int) from (show ((Int32.ofInt 1)).toInt = 1 from by decide))).trans (by omega))⟩)))⟩
                    · have h169_29 := aw_lt_f (a := ((T q) : Int)) (b := (60 : Int)) (show (((cm_u1 (cm_u1 w9 2 8 (Int32.ofInt (-1))) 2 6 ((cm_u1 w9 2 8 (Int32.ofInt (-1))).1 2 4)).1 1 q)).toInt = ((T q) : Int) from hc0) (show (((Int8.ofInt 60).toInt32)).toInt = 60 from by decide) h169_29
                      refine wk_iload_n xd_b654e35b rfl ?_
                      refine wk_bipush xd_ec39191e ?_
                      refine wk_icmp xd_50f34471 (t := 182) rfl (fun h175_30 => ?_) (fun h175_30 => ?_)
                      · have h175_30 := aw_gt_t (a := ((T q) : Int)) (b := (62 : Int)) (show (((cm_u1 (cm_u1 w9 2 8 (Int32.ofInt (-1))) 2 6 ((cm_u1 w9 2 8 (Int32.ofInt (-1))).1 2 4)).1 1 q)).toInt = ((T q) : Int) from hc0) (show (((Int8.ofInt 62).toInt32)).toInt = 62 from by decide) h175_30
                        refine wk_iconst xd_2d9a145b ?_
                        refine wk_putI xf_f8656130 (fun ci => wk_fitI ci) xd_3f258136 ?_
                        refine wk_return xd_9e81f065 xr_1524ee99 ⟨_, rfl, (rd_S_u1 (rd_S_u1 (rd_S_u1 (rd_S_u1 (rd_S_u1 hS (by omega) (by omega)) (by omega) (by omega)) (by omega) (by omega)) (by omega) (by omega)) (by omega) (by omega)), ?_⟩
                        have hnan : ¬ (tx_Sm (T q) ∨ tx_Dg (T q)) := by
                          intro h
                          omega
                        rw [tx_tk_sign hs (by omega) (by omega) hnan, if_neg (by omega)]
                        exact ⟨((show (((cm_u1 (cm_u1 (cm_u1 (cm_u1 (cm_u1 w9 2 8 (Int32.ofInt (-1))) 2 6 ((cm_u1 w9 2 8 (Int32.ofInt (-1))).1 2 4)) 2 4 v26_) 2 10 ((cm_u1 (cm_u1 w9 2 8 (Int32.ofInt (-1))) 2 6 ((cm_u1 w9 2 8 (Int32.ofInt (-1))).1 2 4)).1 1 q)) 2 5 (Int32.ofInt 1)).1 2 6)).toInt = ((q : Int) : Int) from (show (((cm_u1 w9 2 8 (Int32.ofInt (-1))).1 2 4)).toInt = ((q : Int) : Int) from hat))).trans (by first | omega | rfl | (dsimp only; omega)), .inr (.inr (.inr (.inr ⟨rfl, ((show (((cm_u1 (cm_u1 (cm_u1 (cm_u1 (cm_u1 w9 2 8 (Int32.ofInt (-1))) 2 6 ((cm_u1 w9 2 8 (Int32.ofInt (-1))).1 2 4)) 2 4 v26_) 2 10 ((cm_u1 (cm_u1 w9 2 8 (Int32.ofInt (-1))) 2 6 ((cm_u1 w9 2 8 (Int32.ofInt (-1))).1 2 4)).1 1 q)) 2 5 (Int32.ofInt 1)).1 2 8)).toInt = ((-1) : Int) from (show ((Int32.ofInt (-1))).toInt = (-1) from by decide))).trans (by omega), .inl (((show (((cm_u1 (cm_u1 (cm_u1 (cm_u1 (cm_u1 w9 2 8 (Int32.ofInt (-1))) 2 6 ((cm_u1 w9 2 8 (Int32.ofInt (-1))).1 2 4)) 2 4 v26_) 2 10 ((cm_u1 (cm_u1 w9 2 8 (Int32.ofInt (-1))) 2 6 ((cm_u1 w9 2 8 (Int32.ofInt (-1))).1 2 4)).1 1 q)) 2 5 (Int32.ofInt 1)).1 2 5)).toInt = (1 : Int) from (show ((Int32.ofInt 1)).toInt = 1 from by decide))).trans (by omega))⟩)))⟩
                      · have h175_30 := aw_gt_f (a := ((T q) : Int)) (b := (62 : Int)) (show (((cm_u1 (cm_u1 w9 2 8 (Int32.ofInt (-1))) 2 6 ((cm_u1 w9 2 8 (Int32.ofInt (-1))).1 2 4)).1 1 q)).toInt = ((T q) : Int) from hc0) (show (((Int8.ofInt 62).toInt32)).toInt = 62 from by decide) h175_30
                        refine wk_iconst xd_0469af23 ?_
                        refine wk_goto xd_7c741bf1 (t := 183) rfl ?_
                        refine wk_putI xf_f8656130 (fun ci => wk_fitI ci) xd_3f258136 ?_
                        refine wk_return xd_9e81f065 xr_1524ee99 ⟨_, rfl, (rd_S_u1 (rd_S_u1 (rd_S_u1 (rd_S_u1 (rd_S_u1 hS (by omega) (by omega)) (by omega) (by omega)) (by omega) (by omega)) (by omega) (by omega)) (by omega) (by omega)), ?_⟩
                        have hnan : ¬ (tx_Sm (T q) ∨ tx_Dg (T q)) := by
                          intro h
                          omega
                        rw [tx_tk_sign hs (by omega) (by omega) hnan, if_pos (by omega)]
                        exact ⟨((show (((cm_u1 (cm_u1 (cm_u1 (cm_u1 (cm_u1 w9 2 8 (Int32.ofInt (-1))) 2 6 ((cm_u1 w9 2 8 (Int32.ofInt (-1))).1 2 4)) 2 4 v26_) 2 10 ((cm_u1 (cm_u1 w9 2 8 (Int32.ofInt (-1))) 2 6 ((cm_u1 w9 2 8 (Int32.ofInt (-1))).1 2 4)).1 1 q)) 2 5 (Int32.ofInt 4)).1 2 6)).toInt = ((q : Int) : Int) from (show (((cm_u1 w9 2 8 (Int32.ofInt (-1))).1 2 4)).toInt = ((q : Int) : Int) from hat))).trans (by first | omega | rfl | (dsimp only; omega)), .inr (.inr (.inr (.inl ⟨rfl, ((show (((cm_u1 (cm_u1 (cm_u1 (cm_u1 (cm_u1 w9 2 8 (Int32.ofInt (-1))) 2 6 ((cm_u1 w9 2 8 (Int32.ofInt (-1))).1 2 4)) 2 4 v26_) 2 10 ((cm_u1 (cm_u1 w9 2 8 (Int32.ofInt (-1))) 2 6 ((cm_u1 w9 2 8 (Int32.ofInt (-1))).1 2 4)).1 1 q)) 2 5 (Int32.ofInt 4)).1 2 5)).toInt = (4 : Int) from (show ((Int32.ofInt 4)).toInt = 4 from by decide))).trans (by omega), ((show (((cm_u1 (cm_u1 (cm_u1 (cm_u1 (cm_u1 w9 2 8 (Int32.ofInt (-1))) 2 6 ((cm_u1 w9 2 8 (Int32.ofInt (-1))).1 2 4)) 2 4 v26_) 2 10 ((cm_u1 (cm_u1 w9 2 8 (Int32.ofInt (-1))) 2 6 ((cm_u1 w9 2 8 (Int32.ofInt (-1))).1 2 4)).1 1 q)) 2 5 (Int32.ofInt 4)).1 2 4)).toInt = ((q : Int) + 1 : Int) from p26_)).trans (by first | omega | rfl | (dsimp only; omega)), ((show (((cm_u1 (cm_u1 (cm_u1 (cm_u1 (cm_u1 w9 2 8 (Int32.ofInt (-1))) 2 6 ((cm_u1 w9 2 8 (Int32.ofInt (-1))).1 2 4)) 2 4 v26_) 2 10 ((cm_u1 (cm_u1 w9 2 8 (Int32.ofInt (-1))) 2 6 ((cm_u1 w9 2 8 (Int32.ofInt (-1))).1 2 4)).1 1 q)) 2 5 (Int32.ofInt 4)).1 2 8)).toInt = ((-1) : Int) from (show ((Int32.ofInt (-1))).toInt = (-1) from by decide))).trans (by omega), ((show (((cm_u1 (cm_u1 (cm_u1 (cm_u1 (cm_u1 w9 2 8 (Int32.ofInt (-1))) 2 6 ((cm_u1 w9 2 8 (Int32.ofInt (-1))).1 2 4)) 2 4 v26_) 2 10 ((cm_u1 (cm_u1 w9 2 8 (Int32.ofInt (-1))) 2 6 ((cm_u1 w9 2 8 (Int32.ofInt (-1))).1 2 4)).1 1 q)) 2 5 (Int32.ofInt 4)).1 2 10)).toInt = ((T q) : Int) from (show (((cm_u1 (cm_u1 w9 2 8 (Int32.ofInt (-1))) 2 6 ((cm_u1 w9 2 8 (Int32.ofInt (-1))).1 2 4)).1 1 q)).toInt = ((T q) : Int) from hc0))).trans (by first | omega | rfl | (dsimp only; omega))⟩)))⟩
            · have h124_24 := aw_gt_f (a := ((T q) : Int)) (b := (57 : Int)) (show (((cm_u1 (cm_u1 w9 2 8 (Int32.ofInt (-1))) 2 6 ((cm_u1 w9 2 8 (Int32.ofInt (-1))).1 2 4)).1 1 q)).toInt = ((T q) : Int) from hc0) (show (((Int8.ofInt 57).toInt32)).toInt = 57 from by decide) h124_24
              refine wk_aload_n xd_e59bd369 rfl ?_
              have han : tx_Sm (T q) ∨ tx_Dg (T q) := by omega
              have hS8 : rd_S w (cm_u1 (cm_u1 w9 2 8 (Int32.ofInt (-1))) 2 6 ((cm_u1 w9 2 8 (Int32.ofInt (-1))).1 2 4)) := (rd_S_u1 (rd_S_u1 hS (by omega) (by omega)) (by omega) (by omega))
              obtain ⟨k, w2, hC2, hS2, hre2, hR2⟩ := rr_ok (w := (cm_u1 (cm_u1 w9 2 8 (Int32.ofInt (-1))) 2 6 ((cm_u1 w9 2 8 (Int32.ofInt (-1))).1 2 4))) (b := q) (rd_T_S hT hS8) (((show (((cm_u1 (cm_u1 w9 2 8 (Int32.ofInt (-1))) 2 6 ((cm_u1 w9 2 8 (Int32.ofInt (-1))).1 2 4)).1 2 4)).toInt = ((q : Int) : Int) from hat)).trans (by omega)) (((show (((cm_u1 (cm_u1 w9 2 8 (Int32.ofInt (-1))) 2 6 ((cm_u1 w9 2 8 (Int32.ofInt (-1))).1 2 4)).1 2 6)).toInt = ((q : Int) : Int) from (show (((cm_u1 w9 2 8 (Int32.ofInt (-1))).1 2 4)).toInt = ((q : Int) : Int) from hat))).trans (by omega)) (((show (((cm_u1 (cm_u1 w9 2 8 (Int32.ofInt (-1))) 2 6 ((cm_u1 w9 2 8 (Int32.ofInt (-1))).1 2 4)).1 2 8)).toInt = ((-1) : Int) from (show ((Int32.ofInt (-1))).toInt = (-1) from by decide))).trans (by omega)) (by omega) han
              refine wk_call (kd := 0) (i := 67) xd_d1490142 rfl (wk_cal (as := [.inr (.inr (some 2))]) (t := []) xl_37018762 rfl xn_1e04ee16 xc_4a21075b rfl rfl xv_5015f191 rfl) hC2 ?_
              refine wk_return xd_775dfd7d xr_1524ee99 ⟨_, rfl, rd_S_tr hS8 hS2, ?_⟩
              rw [tx_tk_run hs (by omega) (by omega) han hre2]
              exact hR2
    · have h71_0 := aw_lt_f (a := ((q : Int) : Int)) (b := ((st : Int) : Int)) (show (((cm_u1 w9 2 8 (Int32.ofInt (-1))).1 2 4)).toInt = ((q : Int) : Int) from hat) hz h71_0
      refine wk_aload_n xd_8db73dab rfl ?_
      refine wk_iload_n xd_71a72da2 rfl ?_
      refine wk_putI xf_28da2167 (fun ci => wk_fitI ci) xd_e9870673 ?_
      refine wk_aload_n xd_162135ca rfl ?_
      refine wk_iconst xd_6da028be ?_
      refine wk_putI xf_f8656130 (fun ci => wk_fitI ci) xd_e95933ee ?_
      refine wk_return xd_c30a14ea xr_1524ee99 ⟨_, rfl, (rd_S_u1 (rd_S_u1 (rd_S_u1 hS (by omega) (by omega)) (by omega) (by omega)) (by omega) (by omega)), ?_⟩
      have hsz : ((cm_u1 (cm_u1 (cm_u1 w9 2 8 (Int32.ofInt (-1))) 2 6 v1_) 2 5 (Int32.ofInt 0)).1 2 2).toInt = (n : Int) := (by show (w9.1 2 2).toInt = (n : Int); rw [(hS 2 2 (by omega)).1]; exact hT.2.1)
      have hmo : ((cm_u1 (cm_u1 (cm_u1 w9 2 8 (Int32.ofInt (-1))) 2 6 v1_) 2 5 (Int32.ofInt 0)).1 2 3).toInt = (m : Int) := (by show (w9.1 2 3).toInt = (m : Int); rw [(hS 2 3 (by omega)).1]; exact hT.2.2.1)
      rcases hst with ⟨e1, e2⟩ | ⟨e1, e2⟩
      · have hs : tx_sk T n p = n := tx_sk_eq (by omega) (.inl (Nat.le_refl n)) (fun j a b => hbl j a (by omega)) (.inl (Nat.le_refl n))
        rw [tx_tk_end hs (.inl e2) (Nat.le_refl n)]
        exact ⟨((show (((cm_u1 (cm_u1 (cm_u1 w9 2 8 (Int32.ofInt (-1))) 2 6 v1_) 2 5 (Int32.ofInt 0)).1 2 6)).toInt = ((st : Int) : Int) from hz)).trans (by first | omega | rfl | (dsimp only; omega)), .inl ⟨rfl, ((show (((cm_u1 (cm_u1 (cm_u1 w9 2 8 (Int32.ofInt (-1))) 2 6 v1_) 2 5 (Int32.ofInt 0)).1 2 5)).toInt = (0 : Int) from (show ((Int32.ofInt 0)).toInt = 0 from by decide))).trans (by omega), ((show (((cm_u1 (cm_u1 (cm_u1 w9 2 8 (Int32.ofInt (-1))) 2 6 v1_) 2 5 (Int32.ofInt 0)).1 2 8)).toInt = ((-1) : Int) from (show ((Int32.ofInt (-1))).toInt = (-1) from by decide))).trans (by omega), by omega⟩⟩
      · have hs : m ≤ tx_sk T n p := Nat.le_trans (show m ≤ q by omega) (tx_sk_ge hpq (by omega) hbl)
        rw [tx_tk_over e2 hs]
        exact ⟨((show (((cm_u1 (cm_u1 (cm_u1 w9 2 8 (Int32.ofInt (-1))) 2 6 v1_) 2 5 (Int32.ofInt 0)).1 2 6)).toInt = ((st : Int) : Int) from hz)).trans (by first | omega | rfl | (dsimp only; omega)), .inr (.inr (.inr (.inr ⟨rfl, ((show (((cm_u1 (cm_u1 (cm_u1 w9 2 8 (Int32.ofInt (-1))) 2 6 v1_) 2 5 (Int32.ofInt 0)).1 2 8)).toInt = ((-1) : Int) from (show ((Int32.ofInt (-1))).toInt = (-1) from by decide))).trans (by omega), .inr ⟨((show (((cm_u1 (cm_u1 (cm_u1 w9 2 8 (Int32.ofInt (-1))) 2 6 v1_) 2 5 (Int32.ofInt 0)).1 2 5)).toInt = (0 : Int) from (show ((Int32.ofInt 0)).toInt = 0 from by decide))).trans (by omega), by omega⟩⟩)))⟩
  obtain ⟨o, hC, w', rfl, h1, h2⟩ := h
  exact ⟨w', hC, h1, h2⟩

set_option maxRecDepth 100000 in
theorem xd_30a2a273 : decode (ia_code 187) 153 = .ok (.iload_n 3, 1) := fdd_d (by decide +kernel)
set_option maxRecDepth 100000 in
theorem xd_21f441ea : decode (ia_code 187) 154 = .ok (.bipush 22, 2) := fdd_d (by decide +kernel)
set_option maxRecDepth 100000 in
theorem xd_c4e5f637 : decode (ia_code 187) 156 = .ok (.if_icmp .ge 28, 3) := fdd_d (by decide +kernel)
set_option maxRecDepth 100000 in
theorem xd_c02e9b01 : decode (ia_code 187) 159 = .ok (.aload_n 0, 1) := fdd_d (by decide +kernel)
set_option maxRecDepth 100000 in
theorem xd_5a1d9aaf : decode (ia_code 187) 160 = .ok (.getfield 9, 3) := fdd_d (by decide +kernel)
set_option maxRecDepth 100000 in
theorem xf_b6a02122 : wk_gf 187 9 2 1 (3 + 3) = true := by decide +kernel
set_option maxRecDepth 100000 in
theorem xd_68bc0b5b : decode (ia_code 187) 163 = .ok (.iload_n 3, 1) := fdd_d (by decide +kernel)
set_option maxRecDepth 100000 in
theorem xd_0be22598 : decode (ia_code 187) 164 = .ok (.laload, 1) := fdd_d (by decide +kernel)
set_option maxRecDepth 100000 in
theorem xf_ea4d3f16 : aw_lar 3 22 = true := by decide +kernel
set_option maxRecDepth 100000 in
theorem xd_98d5d09c : decode (ia_code 187) 165 = .ok (.aload_n 0, 1) := fdd_d (by decide +kernel)
set_option maxRecDepth 100000 in
theorem xd_817981cd : decode (ia_code 187) 166 = .ok (.getfield 73, 3) := fdd_d (by decide +kernel)
set_option maxRecDepth 100000 in
theorem xf_127d36d4 : wk_gf 187 73 2 7 1 = true := by decide +kernel
set_option maxRecDepth 100000 in
theorem xd_496c3acd : decode (ia_code 187) 169 = .ok (.lcmp, 1) := fdd_d (by decide +kernel)
set_option maxRecDepth 100000 in
theorem xd_5a0f6757 : decode (ia_code 187) 170 = .ok (.ifCond .ne 8, 3) := fdd_d (by decide +kernel)
set_option maxRecDepth 100000 in
theorem xd_3f090572 : decode (ia_code 187) 178 = .ok (.iinc 3 1, 3) := fdd_d (by decide +kernel)
set_option maxRecDepth 100000 in
theorem xm_12d3e81d : ia_maxL 187 = 4 := by decide +kernel
set_option maxRecDepth 100000 in
theorem xd_badf998a : decode (ia_code 187) 181 = .ok (.goto (-28), 3) := fdd_d (by decide +kernel)
set_option maxRecDepth 100000 in
theorem xd_f43ac7c1 : decode (ia_code 187) 173 = .ok (.aload_n 0, 1) := fdd_d (by decide +kernel)
set_option maxRecDepth 100000 in
theorem xd_9f20f6d2 : decode (ia_code 187) 174 = .ok (.iload_n 3, 1) := fdd_d (by decide +kernel)
set_option maxRecDepth 100000 in
theorem xd_5bc4bdf5 : decode (ia_code 187) 175 = .ok (.putfield 61, 3) := fdd_d (by decide +kernel)
set_option maxRecDepth 100000 in
theorem xf_bb670683 : wk_pf 187 61 2 8 0 = true := by decide +kernel
set_option maxRecDepth 100000 in
theorem xd_5a1b4367 : decode (ia_code 187) 14 = .ok (.aload_n 0, 1) := fdd_d (by decide +kernel)
set_option maxRecDepth 100000 in
theorem xd_c1256208 : decode (ia_code 187) 15 = .ok (.getfield 46, 3) := fdd_d (by decide +kernel)
set_option maxRecDepth 100000 in
theorem xf_a03e895d : wk_gf 187 46 2 4 0 = true := by decide +kernel
set_option maxRecDepth 100000 in
theorem xd_5afea1d2 : decode (ia_code 187) 18 = .ok (.aload_n 0, 1) := fdd_d (by decide +kernel)
set_option maxRecDepth 100000 in
theorem xd_89c61c2d : decode (ia_code 187) 19 = .ok (.getfield 39, 3) := fdd_d (by decide +kernel)
set_option maxRecDepth 100000 in
theorem xf_60b542f6 : wk_gf 187 39 2 2 0 = true := by decide +kernel
set_option maxRecDepth 100000 in
theorem xd_a33ceaac : decode (ia_code 187) 22 = .ok (.if_icmp .ge 95, 3) := fdd_d (by decide +kernel)
set_option maxRecDepth 100000 in
theorem xd_9976009b : decode (ia_code 187) 25 = .ok (.aload_n 0, 1) := fdd_d (by decide +kernel)
set_option maxRecDepth 100000 in
theorem xd_11f2d2c0 : decode (ia_code 187) 26 = .ok (.getfield 15, 3) := fdd_d (by decide +kernel)
set_option maxRecDepth 100000 in
theorem xf_c7ce2f67 : wk_gf 187 15 2 0 (1 + 3) = true := by decide +kernel
set_option maxRecDepth 100000 in
theorem xd_9993e22e : decode (ia_code 187) 29 = .ok (.aload_n 0, 1) := fdd_d (by decide +kernel)
set_option maxRecDepth 100000 in
theorem xd_8a59f392 : decode (ia_code 187) 30 = .ok (.getfield 46, 3) := fdd_d (by decide +kernel)
set_option maxRecDepth 100000 in
theorem xd_e7e1e474 : decode (ia_code 187) 33 = .ok (.iaload, 1) := fdd_d (by decide +kernel)
set_option maxRecDepth 100000 in
theorem xd_a43bbb63 : decode (ia_code 187) 34 = .ok (.istore_n 3, 1) := fdd_d (by decide +kernel)
set_option maxRecDepth 100000 in
theorem xd_05f0cc01 : decode (ia_code 187) 35 = .ok (.iload_n 3, 1) := fdd_d (by decide +kernel)
set_option maxRecDepth 100000 in
theorem xd_b6ddf1b8 : decode (ia_code 187) 36 = .ok (.bipush 97, 2) := fdd_d (by decide +kernel)
set_option maxRecDepth 100000 in
theorem xd_5d20ad54 : decode (ia_code 187) 38 = .ok (.if_icmp .lt 35, 3) := fdd_d (by decide +kernel)
set_option maxRecDepth 100000 in
theorem xd_813c2024 : decode (ia_code 187) 73 = .ok (.iload_n 3, 1) := fdd_d (by decide +kernel)
set_option maxRecDepth 100000 in
theorem xd_0c833801 : decode (ia_code 187) 74 = .ok (.bipush 48, 2) := fdd_d (by decide +kernel)
set_option maxRecDepth 100000 in
theorem xd_ead8bf5b : decode (ia_code 187) 76 = .ok (.if_icmp .lt 41, 3) := fdd_d (by decide +kernel)
set_option maxRecDepth 100000 in
theorem xd_6c13b0eb : decode (ia_code 187) 79 = .ok (.iload_n 3, 1) := fdd_d (by decide +kernel)
set_option maxRecDepth 100000 in
theorem xd_a6c6d62f : decode (ia_code 187) 80 = .ok (.bipush 57, 2) := fdd_d (by decide +kernel)
set_option maxRecDepth 100000 in
theorem xd_da658f95 : decode (ia_code 187) 82 = .ok (.if_icmp .gt 35, 3) := fdd_d (by decide +kernel)
set_option maxRecDepth 100000 in
theorem xd_6549a45c : decode (ia_code 187) 85 = .ok (.iinc 2 1, 3) := fdd_d (by decide +kernel)
set_option maxRecDepth 100000 in
theorem xd_09d6f84b : decode (ia_code 187) 88 = .ok (.aload_n 0, 1) := fdd_d (by decide +kernel)
set_option maxRecDepth 100000 in
theorem xd_92a5129f : decode (ia_code 187) 89 = .ok (.aload_n 0, 1) := fdd_d (by decide +kernel)
set_option maxRecDepth 100000 in
theorem xd_71cece5f : decode (ia_code 187) 90 = .ok (.getfield 77, 3) := fdd_d (by decide +kernel)
set_option maxRecDepth 100000 in
theorem xf_d9b289e2 : wk_gf 187 77 2 9 0 = true := by decide +kernel
set_option maxRecDepth 100000 in
theorem xd_78b71433 : decode (ia_code 187) 93 = .ok (.bipush 10, 2) := fdd_d (by decide +kernel)
set_option maxRecDepth 100000 in
theorem xd_5040c760 : decode (ia_code 187) 95 = .ok (.imul, 1) := fdd_d (by decide +kernel)
set_option maxRecDepth 100000 in
theorem xd_7823058d : decode (ia_code 187) 96 = .ok (.iload_n 3, 1) := fdd_d (by decide +kernel)
set_option maxRecDepth 100000 in
theorem xd_18566fd2 : decode (ia_code 187) 97 = .ok (.bipush 48, 2) := fdd_d (by decide +kernel)
set_option maxRecDepth 100000 in
theorem xd_c468e798 : decode (ia_code 187) 99 = .ok (.isub, 1) := fdd_d (by decide +kernel)
set_option maxRecDepth 100000 in
theorem xd_41a356f4 : decode (ia_code 187) 100 = .ok (.iadd, 1) := fdd_d (by decide +kernel)
set_option maxRecDepth 100000 in
theorem xd_3ca6aa2d : decode (ia_code 187) 101 = .ok (.putfield 77, 3) := fdd_d (by decide +kernel)
set_option maxRecDepth 100000 in
theorem xf_159cfde3 : wk_pf 187 77 2 9 0 = true := by decide +kernel
set_option maxRecDepth 100000 in
theorem xd_b39b6818 : decode (ia_code 187) 104 = .ok (.aload_n 0, 1) := fdd_d (by decide +kernel)
set_option maxRecDepth 100000 in
theorem xd_27172ad7 : decode (ia_code 187) 105 = .ok (.dup, 1) := fdd_d (by decide +kernel)
set_option maxRecDepth 100000 in
theorem xd_f0d3a1a2 : decode (ia_code 187) 106 = .ok (.getfield 46, 3) := fdd_d (by decide +kernel)
set_option maxRecDepth 100000 in
theorem xd_ca89f0a1 : decode (ia_code 187) 109 = .ok (.iconst 1, 1) := fdd_d (by decide +kernel)
set_option maxRecDepth 100000 in
theorem xd_9641d6ac : decode (ia_code 187) 110 = .ok (.iadd, 1) := fdd_d (by decide +kernel)
set_option maxRecDepth 100000 in
theorem xd_604f57a4 : decode (ia_code 187) 111 = .ok (.putfield 46, 3) := fdd_d (by decide +kernel)
set_option maxRecDepth 100000 in
theorem xf_6c10fd5c : wk_pf 187 46 2 4 0 = true := by decide +kernel
set_option maxRecDepth 100000 in
theorem xd_c4a75e75 : decode (ia_code 187) 114 = .ok (.goto (-100), 3) := fdd_d (by decide +kernel)
set_option maxRecDepth 100000 in
theorem xd_34b45ae5 : decode (ia_code 187) 41 = .ok (.iload_n 3, 1) := fdd_d (by decide +kernel)
set_option maxRecDepth 100000 in
theorem xd_b25a0652 : decode (ia_code 187) 42 = .ok (.bipush 122, 2) := fdd_d (by decide +kernel)
set_option maxRecDepth 100000 in
theorem xd_28c7180c : decode (ia_code 187) 44 = .ok (.if_icmp .gt 29, 3) := fdd_d (by decide +kernel)
set_option maxRecDepth 100000 in
theorem xd_7a1495f4 : decode (ia_code 187) 47 = .ok (.iinc 1 1, 3) := fdd_d (by decide +kernel)
set_option maxRecDepth 100000 in
theorem xd_33417cab : decode (ia_code 187) 50 = .ok (.aload_n 0, 1) := fdd_d (by decide +kernel)
set_option maxRecDepth 100000 in
theorem xd_a832967f : decode (ia_code 187) 51 = .ok (.aload_n 0, 1) := fdd_d (by decide +kernel)
set_option maxRecDepth 100000 in
theorem xd_6b95f5a0 : decode (ia_code 187) 52 = .ok (.getfield 73, 3) := fdd_d (by decide +kernel)
set_option maxRecDepth 100000 in
theorem xd_a9a09c2f : decode (ia_code 187) 55 = .ok (.ldc2_w 31, 3) := fdd_d (by decide +kernel)
set_option maxRecDepth 100000 in
theorem xl_19808d46 : ia_pl (ia_cls 187) 31 = some (9, 32, 0, 0, 201) := by decide +kernel
set_option maxRecDepth 100000 in
theorem xd_0bc21688 : decode (ia_code 187) 58 = .ok (.lmul, 1) := fdd_d (by decide +kernel)
set_option maxRecDepth 100000 in
theorem xd_b5287ce4 : decode (ia_code 187) 59 = .ok (.iload_n 3, 1) := fdd_d (by decide +kernel)
set_option maxRecDepth 100000 in
theorem xd_b33478ba : decode (ia_code 187) 60 = .ok (.bipush 97, 2) := fdd_d (by decide +kernel)
set_option maxRecDepth 100000 in
theorem xd_7a200238 : decode (ia_code 187) 62 = .ok (.isub, 1) := fdd_d (by decide +kernel)
set_option maxRecDepth 100000 in
theorem xd_c8adcd89 : decode (ia_code 187) 63 = .ok (.iconst 1, 1) := fdd_d (by decide +kernel)
set_option maxRecDepth 100000 in
theorem xd_c3d717c4 : decode (ia_code 187) 64 = .ok (.iadd, 1) := fdd_d (by decide +kernel)
set_option maxRecDepth 100000 in
theorem xd_fe30ddd9 : decode (ia_code 187) 65 = .ok (.i2l, 1) := fdd_d (by decide +kernel)
set_option maxRecDepth 100000 in
theorem xd_8ee37223 : decode (ia_code 187) 66 = .ok (.ladd, 1) := fdd_d (by decide +kernel)
set_option maxRecDepth 100000 in
theorem xd_7e256e94 : decode (ia_code 187) 67 = .ok (.putfield 73, 3) := fdd_d (by decide +kernel)
set_option maxRecDepth 100000 in
theorem xf_6646db29 : aw_pl 187 73 2 7 2 = true := by decide +kernel
set_option maxRecDepth 100000 in
theorem xd_ff5fdffa : decode (ia_code 187) 70 = .ok (.goto 34, 3) := fdd_d (by decide +kernel)
set_option maxRecDepth 100000 in
theorem xd_6498b40f : decode (ia_code 187) 117 = .ok (.iload_n 2, 1) := fdd_d (by decide +kernel)
set_option maxRecDepth 100000 in
theorem xd_50f9b2cd : decode (ia_code 187) 118 = .ok (.ifCond .gt 9, 3) := fdd_d (by decide +kernel)
set_option maxRecDepth 100000 in
theorem xd_1c459d2a : decode (ia_code 187) 127 = .ok (.aload_n 0, 1) := fdd_d (by decide +kernel)
set_option maxRecDepth 100000 in
theorem xd_0d26bc7f : decode (ia_code 187) 128 = .ok (.iload_n 1, 1) := fdd_d (by decide +kernel)
set_option maxRecDepth 100000 in
theorem xd_d2cd5812 : decode (ia_code 187) 129 = .ok (.ifCond .ne 12, 3) := fdd_d (by decide +kernel)
set_option maxRecDepth 100000 in
theorem xd_73967732 : decode (ia_code 187) 141 = .ok (.iconst 1, 1) := fdd_d (by decide +kernel)
set_option maxRecDepth 100000 in
theorem xd_af2323d5 : decode (ia_code 187) 142 = .ok (.putfield 64, 3) := fdd_d (by decide +kernel)
set_option maxRecDepth 100000 in
theorem xf_ca3ae35e : wk_pf 187 64 2 5 0 = true := by decide +kernel
set_option maxRecDepth 100000 in
theorem xd_4c1b971d : decode (ia_code 187) 145 = .ok (.return_, 1) := fdd_d (by decide +kernel)
set_option maxRecDepth 100000 in
theorem xr_5a153ebe : ia_ret 187 = none := by decide +kernel
set_option maxRecDepth 100000 in
theorem xd_268c3347 : decode (ia_code 187) 132 = .ok (.iload_n 2, 1) := fdd_d (by decide +kernel)
set_option maxRecDepth 100000 in
theorem xd_51bf757c : decode (ia_code 187) 133 = .ok (.iconst 3, 1) := fdd_d (by decide +kernel)
set_option maxRecDepth 100000 in
theorem xd_10d75e74 : decode (ia_code 187) 134 = .ok (.if_icmp .gt 7, 3) := fdd_d (by decide +kernel)
set_option maxRecDepth 100000 in
theorem xd_0d1ee67c : decode (ia_code 187) 137 = .ok (.iconst 3, 1) := fdd_d (by decide +kernel)
set_option maxRecDepth 100000 in
theorem xd_04aae12d : decode (ia_code 187) 138 = .ok (.goto 4, 3) := fdd_d (by decide +kernel)
set_option maxRecDepth 100000 in
theorem xd_96ec158d : decode (ia_code 187) 121 = .ok (.iload_n 1, 1) := fdd_d (by decide +kernel)
set_option maxRecDepth 100000 in
theorem xd_c83a0292 : decode (ia_code 187) 122 = .ok (.bipush 7, 2) := fdd_d (by decide +kernel)
set_option maxRecDepth 100000 in
theorem xd_fd0d83cc : decode (ia_code 187) 124 = .ok (.if_icmp .le 22, 3) := fdd_d (by decide +kernel)
set_option maxRecDepth 100000 in
theorem xd_370b25ae : decode (ia_code 187) 146 = .ok (.aload_n 0, 1) := fdd_d (by decide +kernel)
set_option maxRecDepth 100000 in
theorem xd_46c75762 : decode (ia_code 187) 147 = .ok (.iconst 2, 1) := fdd_d (by decide +kernel)
set_option maxRecDepth 100000 in
theorem xd_134e963f : decode (ia_code 187) 148 = .ok (.putfield 64, 3) := fdd_d (by decide +kernel)
set_option maxRecDepth 100000 in
theorem xd_d585b456 : decode (ia_code 187) 151 = .ok (.iconst 0, 1) := fdd_d (by decide +kernel)
set_option maxRecDepth 100000 in
theorem xd_1a05f91d : decode (ia_code 187) 152 = .ok (.istore_n 3, 1) := fdd_d (by decide +kernel)
set_option maxRecDepth 100000 in
theorem xd_3623a183 : decode (ia_code 187) 184 = .ok (.return_, 1) := fdd_d (by decide +kernel)
set_option maxRecDepth 100000 in
theorem xd_4065a19f : decode (ia_code 187) 0 = .ok (.iconst 0, 1) := fdd_d (by decide +kernel)
set_option maxRecDepth 100000 in
theorem xd_ce1b7b7e : decode (ia_code 187) 1 = .ok (.istore_n 1, 1) := fdd_d (by decide +kernel)
set_option maxRecDepth 100000 in
theorem xd_6e35681f : decode (ia_code 187) 2 = .ok (.iconst 0, 1) := fdd_d (by decide +kernel)
set_option maxRecDepth 100000 in
theorem xd_5080cda1 : decode (ia_code 187) 3 = .ok (.istore_n 2, 1) := fdd_d (by decide +kernel)
set_option maxRecDepth 100000 in
theorem xd_22e6e3b5 : decode (ia_code 187) 4 = .ok (.aload_n 0, 1) := fdd_d (by decide +kernel)
set_option maxRecDepth 100000 in
theorem xd_934f214f : decode (ia_code 187) 5 = .ok (.lconst 0, 1) := fdd_d (by decide +kernel)
set_option maxRecDepth 100000 in
theorem xd_66b5f934 : decode (ia_code 187) 6 = .ok (.putfield 73, 3) := fdd_d (by decide +kernel)
set_option maxRecDepth 100000 in
theorem xd_b970ebd4 : decode (ia_code 187) 9 = .ok (.aload_n 0, 1) := fdd_d (by decide +kernel)
set_option maxRecDepth 100000 in
theorem xd_ba0cd1d7 : decode (ia_code 187) 10 = .ok (.iconst 0, 1) := fdd_d (by decide +kernel)
set_option maxRecDepth 100000 in
theorem xd_38bddfd4 : decode (ia_code 187) 11 = .ok (.putfield 77, 3) := fdd_d (by decide +kernel)
/-! ## the class's reader over a text (wip/p4/gen9vb.py) -/
/-- the words that are taken, by their numbers -/
def tx_rw : List Nat := [639022, 781668530, 542723566, 212452, 14132323783, 136276, 165523, 42387, 13809811, 431284, 278194, 498, 1476, 14836, 9612, 515251, 402789, 302, 132741, 290921650, 113966, 492210354]
/-- a text that lies on the tape, as the reader has it -/
def rd_T (w : cm_W) (T : Nat → Int) (n m : Nat) : Prop := (∀ j, j < 940 → (w.1 1 j).toInt = T j) ∧ (w.1 2 2).toInt = n ∧ (w.1 2 3).toInt = m ∧ n ≤ 940 ∧ m ≤ 940 ∧ (∀ k, k < 22 → w.2 3 k = Int64.ofNat (tx_rw.getD k 0))
/-- only the reader's own places have changed -/
def rd_S (w w' : cm_W) : Prop := ∀ k i, ¬ (k = 2 ∧ 4 ≤ i ∧ i ≤ 10) → w'.1 k i = w.1 k i ∧ w'.2 k i = w.2 k i
theorem rd_S_rf (w : cm_W) : rd_S w w := fun _ _ _ => ⟨rfl, rfl⟩
theorem rd_S_tr {w w1 w2 : cm_W} (h1 : rd_S w w1) (h2 : rd_S w1 w2) : rd_S w w2 := fun k i h => ⟨(h2 k i h).1.trans (h1 k i h).1, (h2 k i h).2.trans (h1 k i h).2⟩
theorem rd_S_u1 {w w1 : cm_W} {i : Nat} {x : Int32} (h : rd_S w w1) (h1 : 4 ≤ i) (h2 : i ≤ 10) : rd_S w (cm_u1 w1 2 i x) := fun k j hk => ⟨(hs_u1_ne (by omega)).trans (h k j hk).1, (h k j hk).2⟩
theorem rd_S_u2 {w w1 : cm_W} {i : Nat} {x : Int64} (h : rd_S w w1) (h1 : 4 ≤ i) (h2 : i ≤ 10) : rd_S w (cm_u2 w1 2 i x) := fun k j hk => ⟨(h k j hk).1, (tx_u2_ne (by omega)).trans (h k j hk).2⟩
theorem rd_T_S {w w' : cm_W} {T : Nat → Int} {n m : Nat} (h : rd_T w T n m) (hS : rd_S w w') : rd_T w' T n m := ⟨fun j hj => by rw [(hS 1 j (by omega)).1]; exact h.1 j hj, by rw [(hS 2 2 (by omega)).1]; exact h.2.1, by rw [(hS 2 3 (by omega)).1]; exact h.2.2.1, h.2.2.2.1, h.2.2.2.2.1, fun k hk => by rw [(hS 3 k (by omega)).2]; exact h.2.2.2.2.2 k hk⟩
/-- what the reader holds of a token -/
def rd_C (w : cm_W) (t : Nat × Nat × Nat × Int × Nat) : Prop := (w.1 2 6).toInt = t.2.1 ∧ ((t.1 = 0 ∧ (w.1 2 5).toInt = 0 ∧ (w.1 2 8).toInt = -1 ∧ (w.1 2 2).toInt ≤ (w.1 2 3).toInt) ∨ (t.1 = 1 ∧ (w.1 2 5).toInt = 2 ∧ (w.1 2 4).toInt = t.2.2.1 ∧ w.2 2 7 = Int64.ofNat t.2.2.2.2 ∧ t.2.2.2.2 < 32 ^ 7 ∧ (((w.1 2 8).toInt = -1 ∧ ∀ k, k < 22 → tx_rw.getD k 0 ≠ t.2.2.2.2) ∨ ∃ k : Nat, k < 22 ∧ (w.1 2 8).toInt = k ∧ tx_rw.getD k 0 = t.2.2.2.2)) ∨ (t.1 = 2 ∧ (w.1 2 5).toInt = 3 ∧ (w.1 2 4).toInt = t.2.2.1 ∧ (w.1 2 8).toInt = -1 ∧ (w.1 2 9).toInt = t.2.2.2.1 ∧ 0 ≤ t.2.2.2.1 ∧ t.2.2.2.1 ≤ 999) ∨ (t.1 = 3 ∧ (w.1 2 5).toInt = 4 ∧ (w.1 2 4).toInt = t.2.2.1 ∧ (w.1 2 8).toInt = -1 ∧ (w.1 2 10).toInt = t.2.2.2.1) ∨ (t.1 = 4 ∧ (w.1 2 8).toInt = -1 ∧ ((w.1 2 5).toInt = 1 ∨ ((w.1 2 5).toInt = 0 ∧ (w.1 2 3).toInt < (w.1 2 2).toInt))))
theorem tx_i64 {a b : Nat} (ha : a < 2 ^ 63) (hb : b < 2 ^ 63) (h : Int64.ofNat a = Int64.ofNat b) : a = b := by
  have e1 := Int64.toInt_ofNat_of_lt ha
  have e2 := Int64.toInt_ofNat_of_lt hb
  rw [h, e2] at e1
  omega
theorem tx_wstep {a : Nat} {c : Int} {x : Int32} (hc : x.toInt = c - 96) (h : tx_Sm c) : Int64.ofNat a * Int64.ofNat 32 + x.toInt64 = Int64.ofNat (a * 32 + (c - 96).toNat) := by
  have e : x.toInt64 = Int64.ofNat (c - 96).toNat := by
    apply Int64.toInt_inj.mp
    rw [Int32.toInt_toInt64, hc, Int64.toInt_ofNat_of_lt (by have := h.2; omega)]
    have := h.1
    omega
  rw [e, Int64.ofNat_add, Int64.ofNat_mul]
theorem tx_nstep {a c : Int} {x : Int32} (hc : x.toInt = c - 48) : Int32.ofInt a * Int32.ofInt 10 + x = Int32.ofInt (a * 10 + (c - 48)) := by
  rw [Int32.ofInt_add, Int32.ofInt_mul, ← hc, Int32.ofInt_toInt]
theorem tx_nu_b {T : Nat → Int} {s : Nat} : ∀ k, (∀ j, j < k → tx_Dg (T (s + j))) → 0 ≤ tx_nu T s k ∧ tx_nu T s k < 10 ^ k
  | 0, _ => ⟨Int.le_refl _, (by decide : (0 : Int) < 10 ^ 0)⟩
  | k + 1, h => by
    have h1 := tx_nu_b (T := T) (s := s) k (fun j hj => h j (by omega))
    have h2 := h k (Nat.lt_succ_self k)
    have e : tx_nu T s (k + 1) = tx_nu T s k * 10 + (T (s + k) - 48) := rfl
    rw [e, Int.pow_succ]
    omega
theorem tx_ct_all {T : Nat → Int} {s : Nat} : ∀ k, tx_ct T s k = k → ∀ j, j < k → tx_Sm (T (s + j))
  | 0, _, j, hj => absurd hj (Nat.not_lt_zero j)
  | k + 1, h, j, hj => by
    have hl := tx_ct_le T s k
    by_cases hk : tx_Sm (T (s + k))
    · rw [tx_ct_s hk] at h
      by_cases e : j = k
      · rw [e]
        exact hk
      · exact tx_ct_all k (by omega) j (by omega)
    · rw [tx_ct_n hk] at h
      omega
theorem tx_ct_none {T : Nat → Int} {s : Nat} : ∀ k, tx_ct T s k = 0 → ∀ j, j < k → ¬ tx_Sm (T (s + j))
  | 0, _, j, hj => absurd hj (Nat.not_lt_zero j)
  | k + 1, h, j, hj => by
    by_cases hk : tx_Sm (T (s + k))
    · rw [tx_ct_s hk] at h
      omega
    · rw [tx_ct_n hk] at h
      by_cases e : j = k
      · rw [e]
        exact hk
      · exact tx_ct_none k h j (by omega)
theorem tx_rw_lt (i : Nat) : tx_rw.getD i 0 < 2 ^ 63 := by
  rcases Nat.lt_or_ge i 22 with h | h
  · have go : ∀ i, i < 22 → tx_rw.getD i 0 < 2 ^ 63 := by decide
    exact go i h
  · rw [List.getD_eq_getElem?_getD, List.getElem?_eq_none (by exact h)]
    decide
theorem tx_lg0 (x : Int64) : (lg_cmp x x).toInt = 0 := by
  unfold lg_cmp
  rw [if_neg (by intro h; exact absurd (Int64.lt_iff_toInt_lt.mp h) (by omega)), if_pos rfl]
  decide
theorem tx_lg1 {x z : Int64} (h : (lg_cmp x z).toInt = 0) : x = z := by
  unfold lg_cmp at h
  split at h
  · exact absurd h (by decide)
  · split at h
    · assumption
    · exact absurd h (by decide)
theorem rr_words {w0 : cm_W} {c : Nat} {la ld : Int32} (Q : cm_O → Prop) (hw : ∀ k, k < 22 → w0.2 3 k = Int64.ofNat (tx_rw.getD k 0)) (hc : w0.2 2 7 = Int64.ofNat c) (hcl : c < 2 ^ 63) (hk : ∀ (w : cm_W) (z : Int32), rd_S w0 w ∧ w.2 2 7 = w0.2 2 7 ∧ (∀ j, 4 ≤ j → j ≠ 8 → w.1 2 j = w0.1 2 j) ∧ ((((w.1 2 8).toInt = -1 ∧ ∀ k, k < 22 → tx_rw.getD k 0 ≠ c)) ∨ ∃ k : Nat, k < 22 ∧ (w.1 2 8).toInt = k ∧ tx_rw.getD k 0 = c) → cm_X (cm_C 0) 187 184 [some (.inr (.inr (some 2))), some (.inl la), some (.inl ld), some (.inl z)] [] w Q) : ∀ (n i : Nat) (z : Int32) (w : cm_W), n + i = 22 → z.toInt = (i : Int) → rd_S w0 w ∧ w.2 2 7 = w0.2 2 7 ∧ (∀ j, 4 ≤ j → j ≠ 8 → w.1 2 j = w0.1 2 j) ∧ ((((w.1 2 8).toInt = -1 ∧ ∀ k, k < i → tx_rw.getD k 0 ≠ c)) ∨ ∃ k : Nat, k < i ∧ (w.1 2 8).toInt = k ∧ tx_rw.getD k 0 = c) → cm_X (cm_C 0) 187 153 [some (.inr (.inr (some 2))), some (.inl la), some (.inl ld), some (.inl z)] [] w Q := by
  intro n
  induction n with
  | zero =>
    intro i z w hi hz hI
    obtain ⟨h1, h2, h3, h4⟩ := hI
    refine wk_iload_n xd_30a2a273 rfl ?_
    refine wk_bipush xd_21f441ea ?_
    refine wk_icmp xd_c4e5f637 (t := 184) rfl (fun h156_4 => ?_) (fun h156_4 => ?_)
    · have h156_4 := aw_ge_t (a := ((i : Int) : Int)) (b := (22 : Int)) hz (show (((Int8.ofInt 22).toInt32)).toInt = 22 from by decide) h156_4
      exact hk w z ⟨h1, h2, h3, by have e : i = 22 := (by omega); subst e; exact h4⟩
    · have h156_4 := aw_ge_f (a := ((i : Int) : Int)) (b := (22 : Int)) hz (show (((Int8.ofInt 22).toInt32)).toInt = 22 from by decide) h156_4
      exfalso
      omega
  | succ n ih =>
    intro i z w hi hz hI
    obtain ⟨h1, h2, h3, h4⟩ := hI
    refine wk_iload_n xd_30a2a273 rfl ?_
    refine wk_bipush xd_21f441ea ?_
    refine wk_icmp xd_c4e5f637 (t := 184) rfl (fun h156_5 => ?_) (fun h156_5 => ?_)
    · have h156_5 := aw_ge_t (a := ((i : Int) : Int)) (b := (22 : Int)) hz (show (((Int8.ofInt 22).toInt32)).toInt = 22 from by decide) h156_5
      exfalso
      omega
    · have h156_5 := aw_ge_f (a := ((i : Int) : Int)) (b := (22 : Int)) hz (show (((Int8.ofInt 22).toInt32)).toInt = 22 from by decide) h156_5
      refine wk_aload_n xd_c02e9b01 rfl ?_
      refine wk_getR xf_b6a02122 xd_5a1d9aaf ?_
      refine wk_iload_n xd_68bc0b5b rfl ?_
      refine aw_laload (i := i) xf_ea4d3f16 hz (by omega) (by omega) xd_0be22598 ?_
      refine wk_aload_n xd_98d5d09c rfl ?_
      refine aw_getL xf_127d36d4 xd_817981cd ?_
      refine aw_lcmp xd_496c3acd ?_
      refine wk_if xd_5a0f6757 (t := 178) rfl (fun h170_6 => ?_) (fun h170_6 => ?_)
      · have h170_6 := aw_ne_t (a := ((lg_cmp (w.2 3 i) (w.2 2 7)).toInt : Int)) (b := (0 : Int)) rfl hb_z h170_6
        have hne : tx_rw.getD i 0 ≠ c := fun e => h170_6 (by rw [(h1 3 i (by omega)).2, h2, hw i (by omega), hc, e]; exact tx_lg0 _)
        refine aw_iinc (a := ((i : Int) : Int)) (b := (1 : Int)) (e := ((i : Int) + 1 : Int)) xd_3f090572 (by rw [xm_12d3e81d]; rfl) rfl rfl hz (show ((Int32.ofInt 1)).toInt = 1 from by decide) (by omega) (by omega) (by omega) (fun v8_ p8_ => ?_)
        refine wk_goto xd_badf998a (t := 153) rfl ?_
        refine ih (i + 1) _ _ (by omega) (by omega) ?_
        refine ⟨h1, h2, h3, ?_⟩
        rcases h4 with ⟨g1, g2⟩ | ⟨k, g1, g2, g3⟩
        · exact .inl ⟨g1, fun k hk => (Nat.lt_or_ge k i).elim (fun a => g2 k a) (fun a => by have e : k = i := (by omega); rw [e]; exact hne)⟩
        · exact .inr ⟨k, by omega, g2, g3⟩
      · have h170_6 := aw_ne_f (a := ((lg_cmp (w.2 3 i) (w.2 2 7)).toInt : Int)) (b := (0 : Int)) rfl hb_z h170_6
        have heq : tx_rw.getD i 0 = c := tx_i64 (tx_rw_lt i) (by omega) (by have e9 := tx_lg1 h170_6; rw [(h1 3 i (by omega)).2, h2, hw i (by omega), hc] at e9; exact e9)
        refine wk_aload_n xd_f43ac7c1 rfl ?_
        refine wk_iload_n xd_9f20f6d2 rfl ?_
        refine wk_putI xf_bb670683 (fun ci => wk_fitI ci) xd_5bc4bdf5 ?_
        refine aw_iinc (a := ((i : Int) : Int)) (b := (1 : Int)) (e := ((i : Int) + 1 : Int)) xd_3f090572 (by rw [xm_12d3e81d]; rfl) rfl rfl hz (show ((Int32.ofInt 1)).toInt = 1 from by decide) (by omega) (by omega) (by omega) (fun v9_ p9_ => ?_)
        refine wk_goto xd_badf998a (t := 153) rfl ?_
        refine ih (i + 1) _ _ (by omega) (by omega) ?_
        exact ⟨rd_S_u1 h1 (by omega) (by omega), h2, fun j a b => (hs_u1_ne (by omega)).trans (h3 j a b), .inr ⟨i, by omega, by rw [hs_u1_self]; exact hz, heq⟩⟩
theorem rr_loop {w0 : cm_W} {T : Nat → Int} {n m b : Nat} (hT : rd_T w0 T n m) (Q : cm_O → Prop) (hk : ∀ (w : cm_W) (k : Nat) (z1 z2 : Int32) (lc : Option cm_V), ((w.1 2 4).toInt = (b : Int) + (k : Nat) ∧ z1.toInt = (tx_ct T b k : Nat) ∧ z2.toInt = ((k : Nat) : Int) - (tx_ct T b k : Nat) ∧ rd_S w0 w ∧ (∀ j, j = 5 ∨ j = 6 ∨ j = 8 ∨ j = 10 → w.1 2 j = w0.1 2 j) ∧ (tx_ct T b k = k → w.2 2 7 = Int64.ofNat (tx_cd T b k)) ∧ (tx_ct T b k = 0 → w.1 2 9 = Int32.ofInt (tx_nu T b k)) ∧ (∀ j, j < k → tx_Sm (T (b + j)) ∨ tx_Dg (T (b + j))) ∧ b + k ≤ n) → (n ≤ b + k ∨ ¬ (tx_Sm (T (b + k)) ∨ tx_Dg (T (b + k)))) → cm_X (cm_C 0) 187 117 [some (.inr (.inr (some 2))), some (.inl z1), some (.inl z2), lc] [] w Q) : ∀ (f k : Nat) (z1 z2 : Int32) (lc : Option cm_V) (w : cm_W), f + (b + k) = n → ((w.1 2 4).toInt = (b : Int) + (k : Nat) ∧ z1.toInt = (tx_ct T b k : Nat) ∧ z2.toInt = ((k : Nat) : Int) - (tx_ct T b k : Nat) ∧ rd_S w0 w ∧ (∀ j, j = 5 ∨ j = 6 ∨ j = 8 ∨ j = 10 → w.1 2 j = w0.1 2 j) ∧ (tx_ct T b k = k → w.2 2 7 = Int64.ofNat (tx_cd T b k)) ∧ (tx_ct T b k = 0 → w.1 2 9 = Int32.ofInt (tx_nu T b k)) ∧ (∀ j, j < k → tx_Sm (T (b + j)) ∨ tx_Dg (T (b + j))) ∧ b + k ≤ n) → cm_X (cm_C 0) 187 14 [some (.inr (.inr (some 2))), some (.inl z1), some (.inl z2), lc] [] w Q := by
  have hn9 : n ≤ 940 := hT.2.2.2.1
  intro f
  induction f with
  | zero =>
    intro k z1 z2 lc w hf hI
    obtain ⟨hat, hz1, hz2, hS, hj, hwd, hnu, hall, hle⟩ := hI
    have hl := tx_ct_le T b k
    have hsz : (w.1 2 2).toInt = (n : Int) := by rw [(hS 2 2 (by omega)).1]; exact hT.2.1
    refine wk_aload_n xd_5a1b4367 rfl ?_
    refine wk_getI xf_a03e895d xd_c1256208 ?_
    refine wk_aload_n xd_5afea1d2 rfl ?_
    refine wk_getI xf_60b542f6 xd_89c61c2d ?_
    refine wk_icmp xd_a33ceaac (t := 117) rfl (fun h22_0 => ?_) (fun h22_0 => ?_)
    · have h22_0 := aw_ge_t (a := ((b : Int) + (k : Int) : Int)) (b := ((n : Int) : Int)) (show ((w.1 2 4)).toInt = ((b : Int) + (k : Int) : Int) from hat) (show ((w.1 2 2)).toInt = ((n : Int) : Int) from hsz) h22_0
      exact hk w k z1 z2 _ ⟨hat, hz1, hz2, hS, hj, hwd, hnu, hall, hle⟩ (by first | (left; omega) | (right; intro h; omega))
    · have h22_0 := aw_ge_f (a := ((b : Int) + (k : Int) : Int)) (b := ((n : Int) : Int)) (show ((w.1 2 4)).toInt = ((b : Int) + (k : Int) : Int) from hat) (show ((w.1 2 2)).toInt = ((n : Int) : Int) from hsz) h22_0
      exfalso
      omega
  | succ f ih =>
    intro k z1 z2 lc w hf hI
    obtain ⟨hat, hz1, hz2, hS, hj, hwd, hnu, hall, hle⟩ := hI
    have hl := tx_ct_le T b k
    have hsz : (w.1 2 2).toInt = (n : Int) := by rw [(hS 2 2 (by omega)).1]; exact hT.2.1
    refine wk_aload_n xd_5a1b4367 rfl ?_
    refine wk_getI xf_a03e895d xd_c1256208 ?_
    refine wk_aload_n xd_5afea1d2 rfl ?_
    refine wk_getI xf_60b542f6 xd_89c61c2d ?_
    refine wk_icmp xd_a33ceaac (t := 117) rfl (fun h22_1 => ?_) (fun h22_1 => ?_)
    · have h22_1 := aw_ge_t (a := ((b : Int) + (k : Int) : Int)) (b := ((n : Int) : Int)) (show ((w.1 2 4)).toInt = ((b : Int) + (k : Int) : Int) from hat) (show ((w.1 2 2)).toInt = ((n : Int) : Int) from hsz) h22_1
      exfalso
      omega
    · have h22_1 := aw_ge_f (a := ((b : Int) + (k : Int) : Int)) (b := ((n : Int) : Int)) (show ((w.1 2 4)).toInt = ((b : Int) + (k : Int) : Int) from hat) (show ((w.1 2 2)).toInt = ((n : Int) : Int) from hsz) h22_1
      have hc0 : (w.1 1 (b + k)).toInt = T (b + k) := by rw [(hS 1 (b + k) (by omega)).1]; exact hT.1 (b + k) (by omega)
      refine wk_aload_n xd_9976009b rfl ?_
      refine wk_getR xf_c7ce2f67 xd_11f2d2c0 ?_
      refine wk_aload_n xd_9993e22e rfl ?_
      refine wk_getI xf_a03e895d xd_8a59f392 ?_
      refine aw_iaload (i := (b + k)) xf_97ae57c2 (show ((w.1 2 4)).toInt = ((b : Int) + (k : Int) : Int) from hat) (by omega) (by omega) xd_e7e1e474 ?_
      refine wk_istore_n xd_a43bbb63 (by rw [xm_12d3e81d]; rfl) rfl ?_
      refine wk_iload_n xd_05f0cc01 rfl ?_
      refine wk_bipush xd_b6ddf1b8 ?_
      refine wk_icmp xd_5d20ad54 (t := 73) rfl (fun h38_2 => ?_) (fun h38_2 => ?_)
      · have h38_2 := aw_lt_t (a := ((T (b + k)) : Int)) (b := (97 : Int)) (show ((w.1 1 (b + k))).toInt = ((T (b + k)) : Int) from hc0) (show (((Int8.ofInt 97).toInt32)).toInt = 97 from by decide) h38_2
        refine wk_iload_n xd_813c2024 rfl ?_
        refine wk_bipush xd_0c833801 ?_
        refine wk_icmp xd_ead8bf5b (t := 117) rfl (fun h76_3 => ?_) (fun h76_3 => ?_)
        · have h76_3 := aw_lt_t (a := ((T (b + k)) : Int)) (b := (48 : Int)) (show ((w.1 1 (b + k))).toInt = ((T (b + k)) : Int) from hc0) (show (((Int8.ofInt 48).toInt32)).toInt = 48 from by decide) h76_3
          exact hk w k z1 z2 _ ⟨hat, hz1, hz2, hS, hj, hwd, hnu, hall, hle⟩ (by first | (left; omega) | (right; intro h; omega))
        · have h76_3 := aw_lt_f (a := ((T (b + k)) : Int)) (b := (48 : Int)) (show ((w.1 1 (b + k))).toInt = ((T (b + k)) : Int) from hc0) (show (((Int8.ofInt 48).toInt32)).toInt = 48 from by decide) h76_3
          refine wk_iload_n xd_6c13b0eb rfl ?_
          refine wk_bipush xd_a6c6d62f ?_
          refine wk_icmp xd_da658f95 (t := 117) rfl (fun h82_4 => ?_) (fun h82_4 => ?_)
          · have h82_4 := aw_gt_t (a := ((T (b + k)) : Int)) (b := (57 : Int)) (show ((w.1 1 (b + k))).toInt = ((T (b + k)) : Int) from hc0) (show (((Int8.ofInt 57).toInt32)).toInt = 57 from by decide) h82_4
            exact hk w k z1 z2 _ ⟨hat, hz1, hz2, hS, hj, hwd, hnu, hall, hle⟩ (by first | (left; omega) | (right; intro h; omega))
          · have h82_4 := aw_gt_f (a := ((T (b + k)) : Int)) (b := (57 : Int)) (show ((w.1 1 (b + k))).toInt = ((T (b + k)) : Int) from hc0) (show (((Int8.ofInt 57).toInt32)).toInt = 57 from by decide) h82_4
            refine aw_iinc (a := ((k : Int) + (-1) * ((tx_ct T b k) : Int) : Int)) (b := (1 : Int)) (e := ((k : Int) + (-1) * ((tx_ct T b k) : Int) + 1 : Int)) xd_6549a45c (by rw [xm_12d3e81d]; rfl) rfl rfl (by omega) (show ((Int32.ofInt 1)).toInt = 1 from by decide) (by omega) (by omega) (by omega) (fun v6_ p6_ => ?_)
            refine wk_aload_n xd_09d6f84b rfl ?_
            refine wk_aload_n xd_92a5129f rfl ?_
            refine wk_getI xf_d9b289e2 xd_71cece5f ?_
            refine wk_bipush xd_78b71433 ?_
            refine wk_imul xd_5040c760 ?_
            refine wk_iload_n xd_7823058d rfl ?_
            refine wk_bipush xd_18566fd2 ?_
            refine aw_isub (a := ((T (b + k)) : Int)) (b := (48 : Int)) (e := ((T (b + k)) + (-48) : Int)) xd_c468e798 (show ((w.1 1 (b + k))).toInt = ((T (b + k)) : Int) from hc0) (show (((Int8.ofInt 48).toInt32)).toInt = 48 from by decide) (by omega) (by omega) (by omega) (fun v7_ p7_ => ?_)
            refine wk_iadd xd_41a356f4 ?_
            refine wk_putI xf_159cfde3 (fun ci => wk_fitI ci) xd_3ca6aa2d ?_
            refine wk_aload_n xd_b39b6818 rfl ?_
            refine wk_dup_r xd_27172ad7 ?_
            refine wk_getI xf_a03e895d xd_f0d3a1a2 ?_
            refine wk_iconst xd_ca89f0a1 ?_
            refine aw_iadd (a := ((b : Int) + (k : Int) : Int)) (b := (1 : Int)) (e := ((b : Int) + (k : Int) + 1 : Int)) xd_9641d6ac (show (((cm_u1 w 2 9 (((w.1 2 9) * ((Int8.ofInt 10).toInt32)) + v7_)).1 2 4)).toInt = ((b : Int) + (k : Int) : Int) from hat) (show ((Int32.ofInt 1)).toInt = 1 from by decide) (by omega) (by omega) (by omega) (fun v8_ p8_ => ?_)
            refine wk_putI xf_6c10fd5c (fun ci => wk_fitI ci) xd_604f57a4 ?_
            refine wk_goto xd_c4a75e75 (t := 14) rfl ?_
            have hsm : ¬ tx_Sm (T (b + k)) := fun h => by omega
            refine ih (k + 1) _ _ _ _ (by omega) ⟨by rw [hs_u1_self]; omega, by rw [tx_ct_n hsm]; omega, by rw [tx_ct_n hsm]; omega, ?_, ?_, ?_, ?_, ?_, by omega⟩
            · exact rd_S_u1 (rd_S_u1 hS (by omega) (by omega)) (by omega) (by omega)
            · exact fun j a => (hs_u1_ne (by omega)).trans ((hs_u1_ne (by omega)).trans (hj j a))
            · intro h
              have := tx_ct_le T b k
              rw [tx_ct_n hsm] at h
              omega
            · intro h
              rw [tx_ct_n hsm] at h
              refine (hs_u1_ne (by omega)).trans (hs_u1_self.trans ?_)
              rw [hnu h, show (Int8.ofInt 10).toInt32 = Int32.ofInt 10 from by decide]
              exact tx_nstep (a := tx_nu T b k) (c := T (b + k)) (by omega)
            · intro j hj9
              by_cases e : j = k
              · rw [e]
                exact .inr ⟨by omega, by omega⟩
              · exact hall j (by omega)
      · have h38_2 := aw_lt_f (a := ((T (b + k)) : Int)) (b := (97 : Int)) (show ((w.1 1 (b + k))).toInt = ((T (b + k)) : Int) from hc0) (show (((Int8.ofInt 97).toInt32)).toInt = 97 from by decide) h38_2
        refine wk_iload_n xd_34b45ae5 rfl ?_
        refine wk_bipush xd_b25a0652 ?_
        refine wk_icmp xd_28c7180c (t := 73) rfl (fun h44_8 => ?_) (fun h44_8 => ?_)
        · have h44_8 := aw_gt_t (a := ((T (b + k)) : Int)) (b := (122 : Int)) (show ((w.1 1 (b + k))).toInt = ((T (b + k)) : Int) from hc0) (show (((Int8.ofInt 122).toInt32)).toInt = 122 from by decide) h44_8
          refine wk_iload_n xd_813c2024 rfl ?_
          refine wk_bipush xd_0c833801 ?_
          refine wk_icmp xd_ead8bf5b (t := 117) rfl (fun h76_9 => ?_) (fun h76_9 => ?_)
          · have h76_9 := aw_lt_t (a := ((T (b + k)) : Int)) (b := (48 : Int)) (show ((w.1 1 (b + k))).toInt = ((T (b + k)) : Int) from hc0) (show (((Int8.ofInt 48).toInt32)).toInt = 48 from by decide) h76_9
            exact hk w k z1 z2 _ ⟨hat, hz1, hz2, hS, hj, hwd, hnu, hall, hle⟩ (by first | (left; omega) | (right; intro h; omega))
          · have h76_9 := aw_lt_f (a := ((T (b + k)) : Int)) (b := (48 : Int)) (show ((w.1 1 (b + k))).toInt = ((T (b + k)) : Int) from hc0) (show (((Int8.ofInt 48).toInt32)).toInt = 48 from by decide) h76_9
            refine wk_iload_n xd_6c13b0eb rfl ?_
            refine wk_bipush xd_a6c6d62f ?_
            refine wk_icmp xd_da658f95 (t := 117) rfl (fun h82_10 => ?_) (fun h82_10 => ?_)
            · have h82_10 := aw_gt_t (a := ((T (b + k)) : Int)) (b := (57 : Int)) (show ((w.1 1 (b + k))).toInt = ((T (b + k)) : Int) from hc0) (show (((Int8.ofInt 57).toInt32)).toInt = 57 from by decide) h82_10
              exact hk w k z1 z2 _ ⟨hat, hz1, hz2, hS, hj, hwd, hnu, hall, hle⟩ (by first | (left; omega) | (right; intro h; omega))
            · have h82_10 := aw_gt_f (a := ((T (b + k)) : Int)) (b := (57 : Int)) (show ((w.1 1 (b + k))).toInt = ((T (b + k)) : Int) from hc0) (show (((Int8.ofInt 57).toInt32)).toInt = 57 from by decide) h82_10
              refine aw_iinc (a := ((k : Int) + (-1) * ((tx_ct T b k) : Int) : Int)) (b := (1 : Int)) (e := ((k : Int) + (-1) * ((tx_ct T b k) : Int) + 1 : Int)) xd_6549a45c (by rw [xm_12d3e81d]; rfl) rfl rfl (by omega) (show ((Int32.ofInt 1)).toInt = 1 from by decide) (by omega) (by omega) (by omega) (fun v12_ p12_ => ?_)
              refine wk_aload_n xd_09d6f84b rfl ?_
              refine wk_aload_n xd_92a5129f rfl ?_
              refine wk_getI xf_d9b289e2 xd_71cece5f ?_
              refine wk_bipush xd_78b71433 ?_
              refine wk_imul xd_5040c760 ?_
              refine wk_iload_n xd_7823058d rfl ?_
              refine wk_bipush xd_18566fd2 ?_
              refine aw_isub (a := ((T (b + k)) : Int)) (b := (48 : Int)) (e := ((T (b + k)) + (-48) : Int)) xd_c468e798 (show ((w.1 1 (b + k))).toInt = ((T (b + k)) : Int) from hc0) (show (((Int8.ofInt 48).toInt32)).toInt = 48 from by decide) (by omega) (by omega) (by omega) (fun v13_ p13_ => ?_)
              refine wk_iadd xd_41a356f4 ?_
              refine wk_putI xf_159cfde3 (fun ci => wk_fitI ci) xd_3ca6aa2d ?_
              refine wk_aload_n xd_b39b6818 rfl ?_
              refine wk_dup_r xd_27172ad7 ?_
              refine wk_getI xf_a03e895d xd_f0d3a1a2 ?_
              refine wk_iconst xd_ca89f0a1 ?_
              refine aw_iadd (a := ((b : Int) + (k : Int) : Int)) (b := (1 : Int)) (e := ((b : Int) + (k : Int) + 1 : Int)) xd_9641d6ac (show (((cm_u1 w 2 9 (((w.1 2 9) * ((Int8.ofInt 10).toInt32)) + v13_)).1 2 4)).toInt = ((b : Int) + (k : Int) : Int) from hat) (show ((Int32.ofInt 1)).toInt = 1 from by decide) (by omega) (by omega) (by omega) (fun v14_ p14_ => ?_)
              refine wk_putI xf_6c10fd5c (fun ci => wk_fitI ci) xd_604f57a4 ?_
              refine wk_goto xd_c4a75e75 (t := 14) rfl ?_
              have hsm : ¬ tx_Sm (T (b + k)) := fun h => by omega
              refine ih (k + 1) _ _ _ _ (by omega) ⟨by rw [hs_u1_self]; omega, by rw [tx_ct_n hsm]; omega, by rw [tx_ct_n hsm]; omega, ?_, ?_, ?_, ?_, ?_, by omega⟩
              · exact rd_S_u1 (rd_S_u1 hS (by omega) (by omega)) (by omega) (by omega)
              · exact fun j a => (hs_u1_ne (by omega)).trans ((hs_u1_ne (by omega)).trans (hj j a))
              · intro h
                have := tx_ct_le T b k
                rw [tx_ct_n hsm] at h
                omega
              · intro h
                rw [tx_ct_n hsm] at h
                refine (hs_u1_ne (by omega)).trans (hs_u1_self.trans ?_)
                rw [hnu h, show (Int8.ofInt 10).toInt32 = Int32.ofInt 10 from by decide]
                exact tx_nstep (a := tx_nu T b k) (c := T (b + k)) (by omega)
              · intro j hj9
                by_cases e : j = k
                · rw [e]
                  exact .inr ⟨by omega, by omega⟩
                · exact hall j (by omega)
        · have h44_8 := aw_gt_f (a := ((T (b + k)) : Int)) (b := (122 : Int)) (show ((w.1 1 (b + k))).toInt = ((T (b + k)) : Int) from hc0) (show (((Int8.ofInt 122).toInt32)).toInt = 122 from by decide) h44_8
          refine aw_iinc (a := (((tx_ct T b k) : Int) : Int)) (b := (1 : Int)) (e := (((tx_ct T b k) : Int) + 1 : Int)) xd_7a1495f4 (by rw [xm_12d3e81d]; rfl) rfl rfl hz1 (show ((Int32.ofInt 1)).toInt = 1 from by decide) (by omega) (by omega) (by omega) (fun v15_ p15_ => ?_)
          refine wk_aload_n xd_33417cab rfl ?_
          refine wk_aload_n xd_a832967f rfl ?_
          refine aw_getL xf_127d36d4 xd_6b95f5a0 ?_
          refine aw_ldc2 xl_19808d46 rfl xd_a9a09c2f ?_
          refine aw_lmul xd_0bc21688 ?_
          refine wk_iload_n xd_b5287ce4 rfl ?_
          refine wk_bipush xd_b33478ba ?_
          refine aw_isub (a := ((T (b + k)) : Int)) (b := (97 : Int)) (e := ((T (b + k)) + (-97) : Int)) xd_7a200238 (show ((w.1 1 (b + k))).toInt = ((T (b + k)) : Int) from hc0) (show (((Int8.ofInt 97).toInt32)).toInt = 97 from by decide) (by omega) (by omega) (by omega) (fun v16_ p16_ => ?_)
          refine wk_iconst xd_c8adcd89 ?_
          refine aw_iadd (a := ((T (b + k)) + (-97) : Int)) (b := (1 : Int)) (e := ((T (b + k)) + (-96) : Int)) xd_c3d717c4 p16_ (show ((Int32.ofInt 1)).toInt = 1 from by decide) (by omega) (by omega) (by omega) (fun v17_ p17_ => ?_)
          refine aw_i2l xd_fe30ddd9 ?_
          refine aw_ladd xd_8ee37223 ?_
          refine aw_putL xf_6646db29 (fun _ => rfl) xd_7e256e94 ?_
          refine wk_goto xd_ff5fdffa (t := 104) rfl ?_
          refine wk_aload_n xd_b39b6818 rfl ?_
          refine wk_dup_r xd_27172ad7 ?_
          refine wk_getI xf_a03e895d xd_f0d3a1a2 ?_
          refine wk_iconst xd_ca89f0a1 ?_
          refine aw_iadd (a := ((b : Int) + (k : Int) : Int)) (b := (1 : Int)) (e := ((b : Int) + (k : Int) + 1 : Int)) xd_9641d6ac (show (((cm_u2 w 2 7 (((w.2 2 7) * (Int64.ofNat 32)) + (v17_.toInt64))).1 2 4)).toInt = ((b : Int) + (k : Int) : Int) from hat) (show ((Int32.ofInt 1)).toInt = 1 from by decide) (by omega) (by omega) (by omega) (fun v18_ p18_ => ?_)
          refine wk_putI xf_6c10fd5c (fun ci => wk_fitI ci) xd_604f57a4 ?_
          refine wk_goto xd_c4a75e75 (t := 14) rfl ?_
          have hsm : tx_Sm (T (b + k)) := ⟨by omega, by omega⟩
          refine ih (k + 1) _ _ _ _ (by omega) ⟨by rw [hs_u1_self]; omega, by rw [tx_ct_s hsm]; omega, by rw [tx_ct_s hsm]; omega, ?_, ?_, ?_, ?_, ?_, by omega⟩
          · exact rd_S_u1 (rd_S_u2 hS (by omega) (by omega)) (by omega) (by omega)
          · exact fun j a => (hs_u1_ne (by omega)).trans (hj j a)
          · intro h
            rw [tx_ct_s hsm] at h
            show (((w.2 2 7) * (Int64.ofNat 32)) + (v17_.toInt64)) = _
            rw [hwd (by omega)]
            exact tx_wstep (c := T (b + k)) (by omega) hsm
          · intro h
            rw [tx_ct_s hsm] at h
            omega
          · intro j hj9
            by_cases e : j = k
            · rw [e]
              exact .inl hsm
            · exact hall j (by omega)
theorem tx_pow {k : Nat} (h : k ≤ 3) : (10 : Int) ^ k ≤ 10 ^ 3 := by
  rcases (show k = 0 ∨ k = 1 ∨ k = 2 ∨ k = 3 by omega) with rfl | rfl | rfl | rfl
  all_goals decide
theorem rr_ok {w : cm_W} {T : Nat → Int} {n m b : Nat} (hT : rd_T w T n m) (hat0 : (w.1 2 4).toInt = b) (hst : (w.1 2 6).toInt = b) (hkw : (w.1 2 8).toInt = -1) (hb : b < n) (han : tx_Sm (T (b + 0)) ∨ tx_Dg (T (b + 0))) : ∃ k w', cm_C 1 187 [.inr (.inr (some 2))] w (none, w') ∧ rd_S w w' ∧ tx_re T n b = b + k ∧ rd_C w' (tx_rn T b k) := by
  have hn9 : n ≤ 940 := hT.2.2.2.1
  have h : ∃ o, cm_C (0 + 1) 187 [.inr (.inr (some 2))] w o ∧ (fun o : cm_O => ∃ k w', o = (none, w') ∧ rd_S w w' ∧ tx_re T n b = b + k ∧ rd_C w' (tx_rn T b k)) o := by
    refine wk_entry (by rw [xm_12d3e81d]; exact Nat.le_of_ble_eq_true rfl) ?_
    rw [show cm_ent 187 [.inr (.inr (some 2))] = [some (.inr (.inr (some 2))), none, none, none] from by unfold cm_ent; rw [xm_12d3e81d]; rfl]
    refine wk_iconst xd_4065a19f ?_
    refine wk_istore_n xd_ce1b7b7e (by rw [xm_12d3e81d]; rfl) rfl ?_
    refine wk_iconst xd_6e35681f ?_
    refine wk_istore_n xd_5080cda1 (by rw [xm_12d3e81d]; rfl) rfl ?_
    refine wk_aload_n xd_22e6e3b5 rfl ?_
    refine aw_lconst xd_934f214f ?_
    refine aw_putL xf_6646db29 (fun _ => rfl) xd_66b5f934 ?_
    refine wk_aload_n xd_b970ebd4 rfl ?_
    refine wk_iconst xd_ba0cd1d7 ?_
    refine wk_putI xf_159cfde3 (fun ci => wk_fitI ci) xd_38bddfd4 ?_
    refine rr_loop (w0 := w) (b := b) hT _ (fun w9 k z1 z2 lc hI hE => ?_) (n - b) 0 _ _ _ _ (by omega) ⟨?_, ?_, ?_, ?_, ?_, ?_, ?_, ?_, ?_⟩
    · obtain ⟨hat, hz1, hz2, hS, hj, hwd, hnu, hall, hle⟩ := hI
      have hl := tx_ct_le T b k
      have hk0 : 0 < k := by
        rcases Nat.eq_zero_or_pos k with e | e
        · subst e
          rcases hE with h | h
          · omega
          · exact absurd han h
        · exact e
      have hre : tx_re T n b = b + k := tx_re_eq (by omega) (.inl hle) (fun j a c => by have h8 := hall (j - b) (by omega); rw [show b + (j - b) = j from by omega] at h8; exact h8) hE
      refine wk_iload_n xd_6498b40f rfl ?_
      refine wk_if xd_50f9b2cd (t := 127) rfl (fun h118_0 => ?_) (fun h118_0 => ?_)
      · have h118_0 := aw_gt_t (a := ((k : Int) + (-1) * ((tx_ct T b k) : Int) : Int)) (b := (0 : Int)) (by omega) hb_z h118_0
        refine wk_aload_n xd_1c459d2a rfl ?_
        refine wk_iload_n xd_0d26bc7f rfl ?_
        refine wk_if xd_d2cd5812 (t := 141) rfl (fun h129_1 => ?_) (fun h129_1 => ?_)
        · have h129_1 := aw_ne_t (a := (((tx_ct T b k) : Int) : Int)) (b := (0 : Int)) hz1 hb_z h129_1
          refine wk_iconst xd_73967732 ?_
          refine wk_putI xf_ca3ae35e (fun ci => wk_fitI ci) xd_af2323d5 ?_
          refine wk_return xd_4c1b971d xr_5a153ebe ⟨k, _, rfl, rd_S_u1 hS (by omega) (by omega), hre, ?_⟩
          rw [show tx_rn T b k = (4, b, b + k, 0, 0) from (if_neg (by omega)).trans (if_neg (by omega))]
          exact ⟨(by rw [hs_u1_ne (by omega), hj 6 (by omega)]; exact hst), .inr (.inr (.inr (.inr ⟨rfl, (by rw [hs_u1_ne (by omega), hj 8 (by omega)]; exact hkw), .inl (by rw [hs_u1_self]; decide)⟩)))⟩
        · have h129_1 := aw_ne_f (a := (((tx_ct T b k) : Int) : Int)) (b := (0 : Int)) hz1 hb_z h129_1
          refine wk_iload_n xd_268c3347 rfl ?_
          refine wk_iconst xd_51bf757c ?_
          refine wk_icmp xd_10d75e74 (t := 141) rfl (fun h134_2 => ?_) (fun h134_2 => ?_)
          · have h134_2 := aw_gt_t (a := ((k : Int) + (-1) * ((tx_ct T b k) : Int) : Int)) (b := (3 : Int)) (by omega) (show ((Int32.ofInt 3)).toInt = 3 from by decide) h134_2
            refine wk_iconst xd_73967732 ?_
            refine wk_putI xf_ca3ae35e (fun ci => wk_fitI ci) xd_af2323d5 ?_
            refine wk_return xd_4c1b971d xr_5a153ebe ⟨k, _, rfl, rd_S_u1 hS (by omega) (by omega), hre, ?_⟩
            rw [show tx_rn T b k = (4, b, b + k, 0, 0) from (if_neg (by omega)).trans (if_neg (by omega))]
            exact ⟨(by rw [hs_u1_ne (by omega), hj 6 (by omega)]; exact hst), .inr (.inr (.inr (.inr ⟨rfl, (by rw [hs_u1_ne (by omega), hj 8 (by omega)]; exact hkw), .inl (by rw [hs_u1_self]; decide)⟩)))⟩
          · have h134_2 := aw_gt_f (a := ((k : Int) + (-1) * ((tx_ct T b k) : Int) : Int)) (b := (3 : Int)) (by omega) (show ((Int32.ofInt 3)).toInt = 3 from by decide) h134_2
            refine wk_iconst xd_0d1ee67c ?_
            refine wk_goto xd_04aae12d (t := 142) rfl ?_
            refine wk_putI xf_ca3ae35e (fun ci => wk_fitI ci) xd_af2323d5 ?_
            refine wk_return xd_4c1b971d xr_5a153ebe ⟨k, _, rfl, rd_S_u1 hS (by omega) (by omega), hre, ?_⟩
            have hb9 := tx_nu_b (T := T) (s := b) k (fun j hj9 => by have h8 := hall j hj9; have h7 := tx_ct_none (T := T) (s := b) k (by omega) j hj9; omega)
            have hb8 : (10 : Int) ^ k ≤ 10 ^ 3 := tx_pow (by omega)
            rw [show tx_rn T b k = (2, b, b + k, tx_nu T b k, 0) from (if_neg (by omega)).trans (if_pos (by omega))]
            exact ⟨(by rw [hs_u1_ne (by omega), hj 6 (by omega)]; exact hst), .inr (.inr (.inl ⟨rfl, by rw [hs_u1_self]; decide, by rw [hs_u1_ne (by omega), hat]; exact (Int.natCast_add b k).symm, (by rw [hs_u1_ne (by omega), hj 8 (by omega)]; exact hkw), by rw [hs_u1_ne (by omega), hnu (by omega)]; exact Int32.toInt_ofInt_of_le (by have := hb9.1; omega) (by omega), hb9.1, (show tx_nu T b k ≤ 999 from by omega)⟩))⟩
      · have h118_0 := aw_gt_f (a := ((k : Int) + (-1) * ((tx_ct T b k) : Int) : Int)) (b := (0 : Int)) (by omega) hb_z h118_0
        refine wk_iload_n xd_96ec158d rfl ?_
        refine wk_bipush xd_c83a0292 ?_
        refine wk_icmp xd_fd0d83cc (t := 146) rfl (fun h124_3 => ?_) (fun h124_3 => ?_)
        · have h124_3 := aw_le_t (a := (((tx_ct T b k) : Int) : Int)) (b := (7 : Int)) hz1 (show (((Int8.ofInt 7).toInt32)).toInt = 7 from by decide) h124_3
          refine wk_aload_n xd_370b25ae rfl ?_
          refine wk_iconst xd_46c75762 ?_
          refine wk_putI xf_ca3ae35e (fun ci => wk_fitI ci) xd_134e963f ?_
          refine wk_iconst xd_d585b456 ?_
          refine wk_istore_n xd_1a05f91d (by rw [xm_12d3e81d]; rfl) rfl ?_
          have hct : tx_ct T b k = k := by omega
          have hk7 : k ≤ 7 := by omega
          have hcl : tx_cd T b k < 32 ^ 7 := Nat.lt_of_lt_of_le (tx_cd_lt k (tx_ct_all k hct)) (Nat.pow_le_pow_right (by decide) hk7)
          refine rr_words (w0 := (cm_u1 w9 2 5 (Int32.ofInt 2))) (c := tx_cd T b k) _ (fun j hj9 => ((hS 3 j (by omega)).2).trans (hT.2.2.2.2.2 j hj9)) (hwd hct) (by omega) (fun w9 z9 h9 => ?_) 22 0 _ _ rfl (by decide) ⟨rd_S_rf _, rfl, fun _ _ _ => rfl, .inl ⟨by rw [hs_u1_ne (by omega), hj 8 (by omega)]; exact hkw, fun k9 h9 => absurd h9 (Nat.not_lt_zero k9)⟩⟩
          obtain ⟨g1, g2, g3, g4⟩ := h9
          refine wk_return xd_3623a183 xr_5a153ebe ⟨k, w9, rfl, rd_S_tr (rd_S_u1 hS (by omega) (by omega)) g1, hre, ?_⟩
          rw [show tx_rn T b k = (1, b, b + k, 0, tx_cd T b k) from if_pos ⟨hct, hk7⟩]
          exact ⟨by rw [g3 6 (by omega) (by omega), hs_u1_ne (by omega), hj 6 (by omega)]; exact hst, .inr (.inl ⟨rfl, by rw [g3 5 (by omega) (by omega), hs_u1_self]; decide, by rw [g3 4 (by omega) (by omega), hs_u1_ne (by omega), hat]; exact (Int.natCast_add b k).symm, g2.trans (hwd hct), hcl, g4⟩)⟩
        · have h124_3 := aw_le_f (a := (((tx_ct T b k) : Int) : Int)) (b := (7 : Int)) hz1 (show (((Int8.ofInt 7).toInt32)).toInt = 7 from by decide) h124_3
          refine wk_aload_n xd_1c459d2a rfl ?_
          refine wk_iload_n xd_0d26bc7f rfl ?_
          refine wk_if xd_d2cd5812 (t := 141) rfl (fun h129_4 => ?_) (fun h129_4 => ?_)
          · have h129_4 := aw_ne_t (a := (((tx_ct T b k) : Int) : Int)) (b := (0 : Int)) hz1 hb_z h129_4
            refine wk_iconst xd_73967732 ?_
            refine wk_putI xf_ca3ae35e (fun ci => wk_fitI ci) xd_af2323d5 ?_
            refine wk_return xd_4c1b971d xr_5a153ebe ⟨k, _, rfl, rd_S_u1 hS (by omega) (by omega), hre, ?_⟩
            rw [show tx_rn T b k = (4, b, b + k, 0, 0) from (if_neg (by omega)).trans (if_neg (by omega))]
            exact ⟨(by rw [hs_u1_ne (by omega), hj 6 (by omega)]; exact hst), .inr (.inr (.inr (.inr ⟨rfl, (by rw [hs_u1_ne (by omega), hj 8 (by omega)]; exact hkw), .inl (by rw [hs_u1_self]; decide)⟩)))⟩
          · have h129_4 := aw_ne_f (a := (((tx_ct T b k) : Int) : Int)) (b := (0 : Int)) hz1 hb_z h129_4
            refine wk_iload_n xd_268c3347 rfl ?_
            refine wk_iconst xd_51bf757c ?_
            refine wk_icmp xd_10d75e74 (t := 141) rfl (fun h134_5 => ?_) (fun h134_5 => ?_)
            · have h134_5 := aw_gt_t (a := ((k : Int) + (-1) * ((tx_ct T b k) : Int) : Int)) (b := (3 : Int)) (by omega) (show ((Int32.ofInt 3)).toInt = 3 from by decide) h134_5
              refine wk_iconst xd_73967732 ?_
              refine wk_putI xf_ca3ae35e (fun ci => wk_fitI ci) xd_af2323d5 ?_
              refine wk_return xd_4c1b971d xr_5a153ebe ⟨k, _, rfl, rd_S_u1 hS (by omega) (by omega), hre, ?_⟩
              rw [show tx_rn T b k = (4, b, b + k, 0, 0) from (if_neg (by omega)).trans (if_neg (by omega))]
              exact ⟨(by rw [hs_u1_ne (by omega), hj 6 (by omega)]; exact hst), .inr (.inr (.inr (.inr ⟨rfl, (by rw [hs_u1_ne (by omega), hj 8 (by omega)]; exact hkw), .inl (by rw [hs_u1_self]; decide)⟩)))⟩
            · have h134_5 := aw_gt_f (a := ((k : Int) + (-1) * ((tx_ct T b k) : Int) : Int)) (b := (3 : Int)) (by omega) (show ((Int32.ofInt 3)).toInt = 3 from by decide) h134_5
              refine wk_iconst xd_0d1ee67c ?_
              refine wk_goto xd_04aae12d (t := 142) rfl ?_
              refine wk_putI xf_ca3ae35e (fun ci => wk_fitI ci) xd_af2323d5 ?_
              refine wk_return xd_4c1b971d xr_5a153ebe ⟨k, _, rfl, rd_S_u1 hS (by omega) (by omega), hre, ?_⟩
              have hb9 := tx_nu_b (T := T) (s := b) k (fun j hj9 => by have h8 := hall j hj9; have h7 := tx_ct_none (T := T) (s := b) k (by omega) j hj9; omega)
              have hb8 : (10 : Int) ^ k ≤ 10 ^ 3 := tx_pow (by omega)
              rw [show tx_rn T b k = (2, b, b + k, tx_nu T b k, 0) from (if_neg (by omega)).trans (if_pos (by omega))]
              exact ⟨(by rw [hs_u1_ne (by omega), hj 6 (by omega)]; exact hst), .inr (.inr (.inl ⟨rfl, by rw [hs_u1_self]; decide, by rw [hs_u1_ne (by omega), hat]; exact (Int.natCast_add b k).symm, (by rw [hs_u1_ne (by omega), hj 8 (by omega)]; exact hkw), by rw [hs_u1_ne (by omega), hnu (by omega)]; exact Int32.toInt_ofInt_of_le (by have := hb9.1; omega) (by omega), hb9.1, (show tx_nu T b k ≤ 999 from by omega)⟩))⟩
    · show ((cm_u1 (cm_u2 w 2 7 (Int64.ofNat 0)) 2 9 (Int32.ofInt 0)).1 2 4).toInt = _
      rw [hs_u1_ne (by omega)]
      rw [show (cm_u2 w 2 7 (Int64.ofNat 0)).1 2 4 = w.1 2 4 from rfl, hat0]
      omega
    · exact (by decide : (Int32.ofInt 0).toInt = ((0 : Nat) : Int))
    · exact (by decide : (Int32.ofInt 0).toInt = ((0 : Nat) : Int) - ((0 : Nat) : Int))
    · exact rd_S_u1 (rd_S_u2 (rd_S_rf w) (by omega) (by omega)) (by omega) (by omega)
    · exact fun j a => hs_u1_ne (by omega)
    · exact fun _ => (show (cm_u2 w 2 7 (Int64.ofNat 0)).2 2 7 = Int64.ofNat 0 from tx_u2_self)
    · exact fun _ => hs_u1_self
    · exact fun j a => absurd a (Nat.not_lt_zero j)
    · omega
  obtain ⟨o, hC, k, w', rfl, h1, h2, h3⟩ := h
  exact ⟨k, w', hC, h1, h2, h3⟩

/-! ## by hand: book of the reference, the whole (wip/p2/gen9d.py) -/
/-- what a book may change -/
def jOf (w0 w : cm_W) : Prop := ∀ k i, ¬ (k = 184 ∧ i ≠ 2) → k ≠ 188 → k ≠ 191 → k ≠ 192 → k ≠ 198 → ¬ (k = 186 ∧ 79 ≤ i ∧ i ≤ 119) → w.1 k i = w0.1 k i
theorem jOf_tr {a b c : cm_W} (h1 : jOf a b) (h2 : jOf b c) : jOf a c := fun k i x1 x2 x3 x4 x5 x6 => (h2 k i x1 x2 x3 x4 x5 x6).trans (h1 k i x1 x2 x3 x4 x5 x6)
theorem jBr_eq {f g : Nat → Int32} {i : Nat} (h : ∀ j, 3 * i ≤ j → j ≤ 3 * i + 2 → f j = g j) (hb : jBr f i) : jBr g i := by
  unfold jBr at hb ⊢
  rw [← h (3 * i) (by omega) (by omega), ← h (3 * i + 1) (by omega) (by omega), ← h (3 * i + 2) (by omega) (by omega)]
  exact hb
theorem jOf_rf {a : cm_W} : jOf a a := fun _ _ _ _ _ _ _ _ => rfl
set_option maxRecDepth 100000 in
theorem xd_a454f6a8 : decode (ia_code 96) 39 = .ok (.aload_n 0, 1) := fdd_d (by decide +kernel)
set_option maxRecDepth 100000 in
theorem xd_69531934 : decode (ia_code 96) 40 = .ok (.getfield 150, 3) := fdd_d (by decide +kernel)
set_option maxRecDepth 100000 in
theorem xf_32aa8f7b : wk_gf 96 150 184 11 0 = true := by decide +kernel
set_option maxRecDepth 100000 in
theorem xd_729de104 : decode (ia_code 96) 43 = .ok (.ifCond .eq 40, 3) := fdd_d (by decide +kernel)
set_option maxRecDepth 100000 in
theorem xd_e34c1a57 : decode (ia_code 96) 46 = .ok (.aload_n 0, 1) := fdd_d (by decide +kernel)
set_option maxRecDepth 100000 in
theorem xl_abde85c4 : ia_pl (ia_cls 96) 397 = some (1, 246, 0, 0, 2016) := by decide +kernel
set_option maxRecDepth 100000 in
theorem xn_654e1d40 : ia_na 246 = 1 := by decide +kernel
set_option maxRecDepth 100000 in
theorem xc_24fe0a6b : ia_mc 246 = 0 ∧ ia_ms 246 = 0 := ⟨by decide +kernel, by decide +kernel⟩
set_option maxRecDepth 100000 in
theorem xv_5b4c2490 : cm_rcv 246 [.inr (.inr (some 184))] = true := by decide +kernel
set_option maxRecDepth 100000 in
theorem xd_8bfcd81c : decode (ia_code 96) 47 = .ok (.invokevirtual 397, 3) := fdd_d (by decide +kernel)
set_option maxRecDepth 100000 in
theorem xd_eab1f309 : decode (ia_code 96) 50 = .ok (.ifCond .eq 12, 3) := fdd_d (by decide +kernel)
set_option maxRecDepth 100000 in
theorem xd_56f36cdb : decode (ia_code 96) 62 = .ok (.bipush (-2), 2) := fdd_d (by decide +kernel)
set_option maxRecDepth 100000 in
theorem xd_d7e105b1 : decode (ia_code 96) 64 = .ok (.aload_n 0, 1) := fdd_d (by decide +kernel)
set_option maxRecDepth 100000 in
theorem xd_340abef4 : decode (ia_code 96) 65 = .ok (.getfield 170, 3) := fdd_d (by decide +kernel)
set_option maxRecDepth 100000 in
theorem xf_d5a2ff81 : wk_gf 96 170 184 16 0 = true := by decide +kernel
set_option maxRecDepth 100000 in
theorem xd_0658daf7 : decode (ia_code 96) 68 = .ok (.isub, 1) := fdd_d (by decide +kernel)
set_option maxRecDepth 100000 in
theorem xd_f195aee1 : decode (ia_code 96) 69 = .ok (.ireturn, 1) := fdd_d (by decide +kernel)
set_option maxRecDepth 100000 in
theorem xr_09d975e0 : ia_ret 96 = some .int := by decide +kernel
set_option maxRecDepth 100000 in
theorem xd_f9463437 : decode (ia_code 96) 53 = .ok (.aload_n 0, 1) := fdd_d (by decide +kernel)
set_option maxRecDepth 100000 in
theorem xd_9f667fba : decode (ia_code 96) 54 = .ok (.bipush 59, 2) := fdd_d (by decide +kernel)
set_option maxRecDepth 100000 in
theorem xl_bcc63218 : ia_pl (ia_cls 96) 241 = some (1, 283, 0, 0, 1722) := by decide +kernel
set_option maxRecDepth 100000 in
theorem xd_e168d8ad : decode (ia_code 96) 56 = .ok (.invokevirtual 241, 3) := fdd_d (by decide +kernel)
set_option maxRecDepth 100000 in
theorem xd_7bbbe51e : decode (ia_code 96) 59 = .ok (.ifCond .ne 11, 3) := fdd_d (by decide +kernel)
set_option maxRecDepth 100000 in
theorem xd_5698c105 : decode (ia_code 96) 70 = .ok (.aload_n 0, 1) := fdd_d (by decide +kernel)
set_option maxRecDepth 100000 in
theorem xd_22ebcaf7 : decode (ia_code 96) 71 = .ok (.dup, 1) := fdd_d (by decide +kernel)
set_option maxRecDepth 100000 in
theorem xd_da50080a : decode (ia_code 96) 72 = .ok (.getfield 394, 3) := fdd_d (by decide +kernel)
set_option maxRecDepth 100000 in
theorem xf_7868cef4 : wk_gf 96 394 184 35 0 = true := by decide +kernel
set_option maxRecDepth 100000 in
theorem xd_a5ddc66c : decode (ia_code 96) 75 = .ok (.iconst 1, 1) := fdd_d (by decide +kernel)
set_option maxRecDepth 100000 in
theorem xd_7f1ce15f : decode (ia_code 96) 76 = .ok (.iadd, 1) := fdd_d (by decide +kernel)
set_option maxRecDepth 100000 in
theorem xd_486561e7 : decode (ia_code 96) 77 = .ok (.putfield 394, 3) := fdd_d (by decide +kernel)
set_option maxRecDepth 100000 in
theorem xf_ee2f1532 : wk_pf 96 394 184 35 0 = true := by decide +kernel
set_option maxRecDepth 100000 in
theorem xd_bb9095d8 : decode (ia_code 96) 80 = .ok (.goto (-41), 3) := fdd_d (by decide +kernel)
set_option maxRecDepth 100000 in
theorem xd_0e84e333 : decode (ia_code 96) 89 = .ok (.iload_n 2, 1) := fdd_d (by decide +kernel)
set_option maxRecDepth 100000 in
theorem xd_cbc78f80 : decode (ia_code 96) 90 = .ok (.iconst 4, 1) := fdd_d (by decide +kernel)
set_option maxRecDepth 100000 in
theorem xd_7d172f5d : decode (ia_code 96) 91 = .ok (.if_icmp .ge 16, 3) := fdd_d (by decide +kernel)
set_option maxRecDepth 100000 in
theorem xd_34f40e78 : decode (ia_code 96) 94 = .ok (.aload_n 0, 1) := fdd_d (by decide +kernel)
set_option maxRecDepth 100000 in
theorem xd_bfe6644a : decode (ia_code 96) 95 = .ok (.getfield 77, 3) := fdd_d (by decide +kernel)
set_option maxRecDepth 100000 in
theorem xf_b01a3f24 : wk_gf 96 77 184 36 (198 + 3) = true := by decide +kernel
set_option maxRecDepth 100000 in
theorem xd_14d26cc0 : decode (ia_code 96) 98 = .ok (.iload_n 2, 1) := fdd_d (by decide +kernel)
set_option maxRecDepth 100000 in
theorem xd_902c6b80 : decode (ia_code 96) 99 = .ok (.iconst 0, 1) := fdd_d (by decide +kernel)
set_option maxRecDepth 100000 in
theorem xd_ac1029e2 : decode (ia_code 96) 100 = .ok (.iastore, 1) := fdd_d (by decide +kernel)
set_option maxRecDepth 100000 in
theorem xf_42ac47a8 : wk_ar 198 50 4 = true := by decide +kernel
set_option maxRecDepth 100000 in
theorem xf_7e49d172 : sv_gr sg 198 = [] := by decide +kernel
set_option maxRecDepth 100000 in
theorem xd_fd4ea509 : decode (ia_code 96) 101 = .ok (.iinc 2 1, 3) := fdd_d (by decide +kernel)
set_option maxRecDepth 100000 in
theorem xm_048ee623 : ia_maxL 96 = 4 := by decide +kernel
set_option maxRecDepth 100000 in
theorem xd_639f88e6 : decode (ia_code 96) 104 = .ok (.goto (-15), 3) := fdd_d (by decide +kernel)
set_option maxRecDepth 100000 in
theorem xd_155f9eca : decode (ia_code 96) 111 = .ok (.iload_n 3, 1) := fdd_d (by decide +kernel)
set_option maxRecDepth 100000 in
theorem xd_7e190e4a : decode (ia_code 96) 112 = .ok (.aload_n 0, 1) := fdd_d (by decide +kernel)
set_option maxRecDepth 100000 in
theorem xd_851c5710 : decode (ia_code 96) 113 = .ok (.getfield 394, 3) := fdd_d (by decide +kernel)
set_option maxRecDepth 100000 in
theorem xd_9d164417 : decode (ia_code 96) 116 = .ok (.if_icmp .ge 75, 3) := fdd_d (by decide +kernel)
set_option maxRecDepth 100000 in
theorem xd_2886f45c : decode (ia_code 96) 119 = .ok (.iload_n 2, 1) := fdd_d (by decide +kernel)
set_option maxRecDepth 100000 in
theorem xd_3f4b2eea : decode (ia_code 96) 120 = .ok (.ifCond .ge 71, 3) := fdd_d (by decide +kernel)
set_option maxRecDepth 100000 in
theorem xd_bd744db6 : decode (ia_code 96) 123 = .ok (.aload_n 0, 1) := fdd_d (by decide +kernel)
set_option maxRecDepth 100000 in
theorem xd_6e916b86 : decode (ia_code 96) 124 = .ok (.getfield 77, 3) := fdd_d (by decide +kernel)
set_option maxRecDepth 100000 in
theorem xd_6d2f07d9 : decode (ia_code 96) 127 = .ok (.iconst 0, 1) := fdd_d (by decide +kernel)
set_option maxRecDepth 100000 in
theorem xd_cb2837ad : decode (ia_code 96) 128 = .ok (.aload_n 0, 1) := fdd_d (by decide +kernel)
set_option maxRecDepth 100000 in
theorem xd_505bdd79 : decode (ia_code 96) 129 = .ok (.aload_n 0, 1) := fdd_d (by decide +kernel)
set_option maxRecDepth 100000 in
theorem xd_46852954 : decode (ia_code 96) 130 = .ok (.getfield 40, 3) := fdd_d (by decide +kernel)
set_option maxRecDepth 100000 in
theorem xf_b71e4a0b : wk_gf 96 40 184 8 (188 + 3) = true := by decide +kernel
set_option maxRecDepth 100000 in
theorem xd_ed5d04dd : decode (ia_code 96) 133 = .ok (.iconst 3, 1) := fdd_d (by decide +kernel)
set_option maxRecDepth 100000 in
theorem xd_574b1982 : decode (ia_code 96) 134 = .ok (.iload_n 3, 1) := fdd_d (by decide +kernel)
set_option maxRecDepth 100000 in
theorem xd_4fe7fdbc : decode (ia_code 96) 135 = .ok (.imul, 1) := fdd_d (by decide +kernel)
set_option maxRecDepth 100000 in
theorem xd_e6dc7066 : decode (ia_code 96) 136 = .ok (.iaload, 1) := fdd_d (by decide +kernel)
set_option maxRecDepth 100000 in
theorem xd_3c0d8902 : decode (ia_code 96) 137 = .ok (.aload_n 0, 1) := fdd_d (by decide +kernel)
set_option maxRecDepth 100000 in
theorem xd_6a8ebae3 : decode (ia_code 96) 138 = .ok (.getfield 40, 3) := fdd_d (by decide +kernel)
set_option maxRecDepth 100000 in
theorem xd_b5b455f3 : decode (ia_code 96) 141 = .ok (.iconst 3, 1) := fdd_d (by decide +kernel)
set_option maxRecDepth 100000 in
theorem xd_8b995c8f : decode (ia_code 96) 142 = .ok (.iload_n 3, 1) := fdd_d (by decide +kernel)
set_option maxRecDepth 100000 in
theorem xd_0ba5ca72 : decode (ia_code 96) 143 = .ok (.imul, 1) := fdd_d (by decide +kernel)
set_option maxRecDepth 100000 in
theorem xd_84fdf153 : decode (ia_code 96) 144 = .ok (.iconst 1, 1) := fdd_d (by decide +kernel)
set_option maxRecDepth 100000 in
theorem xd_3a83867c : decode (ia_code 96) 145 = .ok (.iadd, 1) := fdd_d (by decide +kernel)
set_option maxRecDepth 100000 in
theorem xd_8f3bf63e : decode (ia_code 96) 146 = .ok (.iaload, 1) := fdd_d (by decide +kernel)
set_option maxRecDepth 100000 in
theorem xd_0d15be75 : decode (ia_code 96) 147 = .ok (.aload_n 0, 1) := fdd_d (by decide +kernel)
set_option maxRecDepth 100000 in
theorem xd_b24dc1c5 : decode (ia_code 96) 148 = .ok (.getfield 40, 3) := fdd_d (by decide +kernel)
set_option maxRecDepth 100000 in
theorem xd_2ec7bf27 : decode (ia_code 96) 151 = .ok (.iconst 3, 1) := fdd_d (by decide +kernel)
set_option maxRecDepth 100000 in
theorem xd_0abc39a8 : decode (ia_code 96) 152 = .ok (.iload_n 3, 1) := fdd_d (by decide +kernel)
set_option maxRecDepth 100000 in
theorem xd_dc474a2a : decode (ia_code 96) 153 = .ok (.imul, 1) := fdd_d (by decide +kernel)
set_option maxRecDepth 100000 in
theorem xd_582e6157 : decode (ia_code 96) 154 = .ok (.iconst 2, 1) := fdd_d (by decide +kernel)
set_option maxRecDepth 100000 in
theorem xd_ed610624 : decode (ia_code 96) 155 = .ok (.iadd, 1) := fdd_d (by decide +kernel)
set_option maxRecDepth 100000 in
theorem xd_10e175a0 : decode (ia_code 96) 156 = .ok (.iaload, 1) := fdd_d (by decide +kernel)
set_option maxRecDepth 100000 in
theorem xl_603c62c6 : ia_pl (ia_cls 96) 400 = some (1, 250, 0, 0, 2020) := by decide +kernel
set_option maxRecDepth 100000 in
theorem xn_5138cfca : ia_na 250 = 4 := by decide +kernel
set_option maxRecDepth 100000 in
theorem xc_0c0d3b33 : ia_mc 250 = 0 ∧ ia_ms 250 = 0 := ⟨by decide +kernel, by decide +kernel⟩
set_option maxRecDepth 100000 in
theorem xv_c9e1178c : cm_rcv 250 [.inr (.inr (some 184))] = true := by decide +kernel
set_option maxRecDepth 100000 in
theorem xd_909b34e6 : decode (ia_code 96) 157 = .ok (.invokevirtual 400, 3) := fdd_d (by decide +kernel)
set_option maxRecDepth 100000 in
theorem xd_dee17362 : decode (ia_code 96) 160 = .ok (.iastore, 1) := fdd_d (by decide +kernel)
set_option maxRecDepth 100000 in
theorem xg_9aa8d587 : sv_g sg 198 0 = sv_top := by decide +kernel
set_option maxRecDepth 100000 in
theorem xd_39e40000 : decode (ia_code 96) 161 = .ok (.aload_n 0, 1) := fdd_d (by decide +kernel)
set_option maxRecDepth 100000 in
theorem xd_2fde91fe : decode (ia_code 96) 162 = .ok (.getfield 77, 3) := fdd_d (by decide +kernel)
set_option maxRecDepth 100000 in
theorem xd_43236fca : decode (ia_code 96) 165 = .ok (.iconst 0, 1) := fdd_d (by decide +kernel)
set_option maxRecDepth 100000 in
theorem xd_6bfff743 : decode (ia_code 96) 166 = .ok (.iaload, 1) := fdd_d (by decide +kernel)
set_option maxRecDepth 100000 in
theorem xd_a01e1283 : decode (ia_code 96) 167 = .ok (.ifCond .le 8, 3) := fdd_d (by decide +kernel)
set_option maxRecDepth 100000 in
theorem xd_b89dc4b4 : decode (ia_code 96) 175 = .ok (.aload_n 0, 1) := fdd_d (by decide +kernel)
set_option maxRecDepth 100000 in
theorem xd_337e7d92 : decode (ia_code 96) 176 = .ok (.getfield 77, 3) := fdd_d (by decide +kernel)
set_option maxRecDepth 100000 in
theorem xd_00d219ae : decode (ia_code 96) 179 = .ok (.iconst 1, 1) := fdd_d (by decide +kernel)
set_option maxRecDepth 100000 in
theorem xd_19302016 : decode (ia_code 96) 180 = .ok (.dup2, 1) := fdd_d (by decide +kernel)
set_option maxRecDepth 100000 in
theorem xd_59745d60 : decode (ia_code 96) 181 = .ok (.iaload, 1) := fdd_d (by decide +kernel)
set_option maxRecDepth 100000 in
theorem xd_f6e94966 : decode (ia_code 96) 182 = .ok (.iconst 1, 1) := fdd_d (by decide +kernel)
set_option maxRecDepth 100000 in
theorem xd_d4362a9e : decode (ia_code 96) 183 = .ok (.iadd, 1) := fdd_d (by decide +kernel)
set_option maxRecDepth 100000 in
theorem xd_07aa0b59 : decode (ia_code 96) 184 = .ok (.iastore, 1) := fdd_d (by decide +kernel)
set_option maxRecDepth 100000 in
theorem xg_756abeb9 : sv_g sg 198 1 = sv_top := by decide +kernel
set_option maxRecDepth 100000 in
theorem xd_07217e9b : decode (ia_code 96) 185 = .ok (.iinc 3 1, 3) := fdd_d (by decide +kernel)
set_option maxRecDepth 100000 in
theorem xd_da872d81 : decode (ia_code 96) 188 = .ok (.goto (-77), 3) := fdd_d (by decide +kernel)
set_option maxRecDepth 100000 in
theorem xd_3e11264e : decode (ia_code 96) 170 = .ok (.iload_n 3, 1) := fdd_d (by decide +kernel)
set_option maxRecDepth 100000 in
theorem xd_7f032f38 : decode (ia_code 96) 171 = .ok (.istore_n 2, 1) := fdd_d (by decide +kernel)
set_option maxRecDepth 100000 in
theorem xd_9ae86865 : decode (ia_code 96) 172 = .ok (.goto 13, 3) := fdd_d (by decide +kernel)
set_option maxRecDepth 100000 in
theorem xi_b51649f3 : ∀ u, u < 8 → ∀ i, i < 41 → sv_incl (sv_g sg 192 i) (sv_g sg 191 (41 * u + i)) = true := by decide +kernel
set_option maxRecDepth 100000 in
theorem xd_f930a7b0 : decode (ia_code 96) 239 = .ok (.iload_n 3, 1) := fdd_d (by decide +kernel)
set_option maxRecDepth 100000 in
theorem xd_a5f4dbcf : decode (ia_code 96) 240 = .ok (.bipush 41, 2) := fdd_d (by decide +kernel)
set_option maxRecDepth 100000 in
theorem xd_8518ca58 : decode (ia_code 96) 242 = .ok (.if_icmp .ge 31, 3) := fdd_d (by decide +kernel)
set_option maxRecDepth 100000 in
theorem xd_d56edbcf : decode (ia_code 96) 245 = .ok (.aload_n 0, 1) := fdd_d (by decide +kernel)
set_option maxRecDepth 100000 in
theorem xd_8d55c0b2 : decode (ia_code 96) 246 = .ok (.getfield 50, 3) := fdd_d (by decide +kernel)
set_option maxRecDepth 100000 in
theorem xf_da590837 : wk_gf 96 50 184 21 (191 + 3) = true := by decide +kernel
set_option maxRecDepth 100000 in
theorem xd_3e3e723d : decode (ia_code 96) 249 = .ok (.bipush 41, 2) := fdd_d (by decide +kernel)
set_option maxRecDepth 100000 in
theorem xd_54171f7b : decode (ia_code 96) 251 = .ok (.aload_n 0, 1) := fdd_d (by decide +kernel)
set_option maxRecDepth 100000 in
theorem xd_1b77858f : decode (ia_code 96) 252 = .ok (.getfield 244, 3) := fdd_d (by decide +kernel)
set_option maxRecDepth 100000 in
theorem xf_90b12ec0 : wk_gf 96 244 184 23 0 = true := by decide +kernel
set_option maxRecDepth 100000 in
theorem xd_50b8d66f : decode (ia_code 96) 255 = .ok (.iconst 1, 1) := fdd_d (by decide +kernel)
set_option maxRecDepth 100000 in
theorem xd_1fc53ff5 : decode (ia_code 96) 256 = .ok (.isub, 1) := fdd_d (by decide +kernel)
set_option maxRecDepth 100000 in
theorem xd_7846d0e6 : decode (ia_code 96) 257 = .ok (.imul, 1) := fdd_d (by decide +kernel)
set_option maxRecDepth 100000 in
theorem xd_d27e1f34 : decode (ia_code 96) 258 = .ok (.iload_n 3, 1) := fdd_d (by decide +kernel)
set_option maxRecDepth 100000 in
theorem xd_5e3132e4 : decode (ia_code 96) 259 = .ok (.iadd, 1) := fdd_d (by decide +kernel)
set_option maxRecDepth 100000 in
theorem xd_977a5c87 : decode (ia_code 96) 260 = .ok (.aload_n 0, 1) := fdd_d (by decide +kernel)
set_option maxRecDepth 100000 in
theorem xd_11ef0da5 : decode (ia_code 96) 261 = .ok (.getfield 53, 3) := fdd_d (by decide +kernel)
set_option maxRecDepth 100000 in
theorem xf_b8f80fc8 : wk_gf 96 53 184 22 (192 + 3) = true := by decide +kernel
set_option maxRecDepth 100000 in
theorem xd_8a8554a9 : decode (ia_code 96) 264 = .ok (.iload_n 3, 1) := fdd_d (by decide +kernel)
set_option maxRecDepth 100000 in
theorem xd_fd2e17c9 : decode (ia_code 96) 265 = .ok (.iaload, 1) := fdd_d (by decide +kernel)
set_option maxRecDepth 100000 in
theorem xf_4b87c8a1 : wk_ar 192 50 41 = true := by decide +kernel
set_option maxRecDepth 100000 in
theorem xd_5e394f99 : decode (ia_code 96) 266 = .ok (.iastore, 1) := fdd_d (by decide +kernel)
set_option maxRecDepth 100000 in
theorem xf_3506d7ff : wk_ar 191 50 328 = true := by decide +kernel
set_option maxRecDepth 100000 in
theorem xd_9c1c2f6f : decode (ia_code 96) 267 = .ok (.iinc 3 1, 3) := fdd_d (by decide +kernel)
set_option maxRecDepth 100000 in
theorem xd_3a9054d6 : decode (ia_code 96) 270 = .ok (.goto (-31), 3) := fdd_d (by decide +kernel)
set_option maxRecDepth 100000 in
theorem xd_daf10bc9 : decode (ia_code 96) 191 = .ok (.aload_n 0, 1) := fdd_d (by decide +kernel)
set_option maxRecDepth 100000 in
theorem xd_a234c764 : decode (ia_code 96) 192 = .ok (.getfield 77, 3) := fdd_d (by decide +kernel)
set_option maxRecDepth 100000 in
theorem xd_4fe3e722 : decode (ia_code 96) 195 = .ok (.iconst 2, 1) := fdd_d (by decide +kernel)
set_option maxRecDepth 100000 in
theorem xd_ac489367 : decode (ia_code 96) 196 = .ok (.aload_n 0, 1) := fdd_d (by decide +kernel)
set_option maxRecDepth 100000 in
theorem xd_9213f947 : decode (ia_code 96) 197 = .ok (.getfield 33, 3) := fdd_d (by decide +kernel)
set_option maxRecDepth 100000 in
theorem xf_c29b01b2 : wk_gf 96 33 184 6 (186 + 3) = true := by decide +kernel
set_option maxRecDepth 100000 in
theorem xd_7a167cff : decode (ia_code 96) 200 = .ok (.bipush 79, 2) := fdd_d (by decide +kernel)
set_option maxRecDepth 100000 in
theorem xd_ea57b49c : decode (ia_code 96) 202 = .ok (.iaload, 1) := fdd_d (by decide +kernel)
set_option maxRecDepth 100000 in
theorem xd_a1eb923c : decode (ia_code 96) 203 = .ok (.iastore, 1) := fdd_d (by decide +kernel)
set_option maxRecDepth 100000 in
theorem xg_9e5d05ba : sv_g sg 198 2 = sv_top := by decide +kernel
set_option maxRecDepth 100000 in
theorem xd_271baf44 : decode (ia_code 96) 204 = .ok (.aload_n 0, 1) := fdd_d (by decide +kernel)
set_option maxRecDepth 100000 in
theorem xd_6dc49d24 : decode (ia_code 96) 205 = .ok (.getfield 77, 3) := fdd_d (by decide +kernel)
set_option maxRecDepth 100000 in
theorem xd_439d1f88 : decode (ia_code 96) 208 = .ok (.iconst 3, 1) := fdd_d (by decide +kernel)
set_option maxRecDepth 100000 in
theorem xd_bc8da725 : decode (ia_code 96) 209 = .ok (.aload_n 0, 1) := fdd_d (by decide +kernel)
set_option maxRecDepth 100000 in
theorem xs_109_35fa1572 {w : cm_W} (hG : sv_w sg w) : ∃ x : Int32, cm_C 1 109 [.inr (.inr (some 184))] w (some (.inl x), w) ∧ (((-2147483648) ≤ x.toInt ∧ x.toInt ≤ 2147483647)) := by
  obtain ⟨r, w', hC, hG', hF, q, hq, hr, hp, hs⟩ := wk_use (d := 1) sm_109_35fa1572_ok (by decide) (as := [.inr (.inr (some 184))]) (w := w) ⟨rfl, trivial⟩ (fun f hf => by
    cases hf) hG
  have ew : w' = w := Prod.ext (funext fun k => funext fun i => (hF k i (fun ⟨r, z, _⟩ => by cases z)).1) (funext fun k => funext fun i => (hF k i (fun ⟨r, z, _⟩ => by cases z)).2)
  subst ew
  simp only [sm_109_35fa1572, List.mem_cons, List.not_mem_nil, or_false] at hq
  rcases hq with rfl
  · obtain ⟨x, rfl, hx⟩ := wk_int hr
    have hx := hb_in hx
    exact ⟨x, hC, ⟨by omega, by omega⟩⟩
set_option maxRecDepth 100000 in
theorem xl_d779da69 : ia_pl (ia_cls 96) 288 = some (1, 109, 0, 0, 1802) := by decide +kernel
set_option maxRecDepth 100000 in
theorem xn_4d67d21a : ia_na 109 = 1 := by decide +kernel
set_option maxRecDepth 100000 in
theorem xc_263c36b5 : ia_mc 109 = 0 ∧ ia_ms 109 = 0 := ⟨by decide +kernel, by decide +kernel⟩
set_option maxRecDepth 100000 in
theorem xv_aeae2d51 : cm_rcv 109 [.inr (.inr (some 184))] = true := by decide +kernel
set_option maxRecDepth 100000 in
theorem xd_2d42f978 : decode (ia_code 96) 210 = .ok (.invokevirtual 288, 3) := fdd_d (by decide +kernel)
set_option maxRecDepth 100000 in
theorem xd_b6c3f6fc : decode (ia_code 96) 213 = .ok (.iastore, 1) := fdd_d (by decide +kernel)
set_option maxRecDepth 100000 in
theorem xg_719f6e84 : sv_g sg 198 3 = sv_top := by decide +kernel
set_option maxRecDepth 100000 in
theorem xd_a63eca63 : decode (ia_code 96) 214 = .ok (.aload_n 0, 1) := fdd_d (by decide +kernel)
set_option maxRecDepth 100000 in
theorem xd_50e477fc : decode (ia_code 96) 215 = .ok (.iconst 1, 1) := fdd_d (by decide +kernel)
set_option maxRecDepth 100000 in
theorem xd_f75f569c : decode (ia_code 96) 216 = .ok (.putfield 404, 3) := fdd_d (by decide +kernel)
set_option maxRecDepth 100000 in
theorem xf_944d5637 : wk_pf 96 404 184 37 1 = true := by decide +kernel
set_option maxRecDepth 100000 in
theorem xg_f7707e55 : sv_g sg 184 37 = (2147483648, 2147483649) := by decide +kernel
set_option maxRecDepth 100000 in
theorem xd_5acb38df : decode (ia_code 96) 219 = .ok (.iload_n 1, 1) := fdd_d (by decide +kernel)
set_option maxRecDepth 100000 in
theorem xd_6d88b901 : decode (ia_code 96) 220 = .ok (.iconst 1, 1) := fdd_d (by decide +kernel)
set_option maxRecDepth 100000 in
theorem xd_2bfd3270 : decode (ia_code 96) 221 = .ok (.if_icmp .ne 52, 3) := fdd_d (by decide +kernel)
set_option maxRecDepth 100000 in
theorem xd_07d9fa40 : decode (ia_code 96) 273 = .ok (.iload_n 1, 1) := fdd_d (by decide +kernel)
set_option maxRecDepth 100000 in
theorem xd_fe6e73b1 : decode (ia_code 96) 274 = .ok (.ifCond .ne 7, 3) := fdd_d (by decide +kernel)
set_option maxRecDepth 100000 in
theorem xd_4efa58b0 : decode (ia_code 96) 281 = .ok (.iload_n 2, 1) := fdd_d (by decide +kernel)
set_option maxRecDepth 100000 in
theorem xd_204fc423 : decode (ia_code 96) 282 = .ok (.ireturn, 1) := fdd_d (by decide +kernel)
set_option maxRecDepth 100000 in
theorem xd_60e6a10e : decode (ia_code 96) 277 = .ok (.aload_n 0, 1) := fdd_d (by decide +kernel)
set_option maxRecDepth 100000 in
theorem xs_93_35fa1572 {w : cm_W} (hG : sv_w sg w) : ∃ w' : cm_W, cm_C 1 93 [.inr (.inr (some 184))] w (none, w') ∧ sv_w sg w' ∧ (∀ k i, ¬ ((k = 186 ∧ 79 ≤ i ∧ i ≤ 119)) → w'.1 k i = w.1 k i ∧ w'.2 k i = w.2 k i) ∧ ((True)) := by
  obtain ⟨r, w', hC, hG', hF, q, hq, hr, hp, hs⟩ := wk_use (d := 1) sm_93_35fa1572_ok (by decide) (as := [.inr (.inr (some 184))]) (w := w) ⟨rfl, trivial⟩ (fun f hf => by
    cases hf) hG
  have hfr : ∀ k i, ¬ ((k = 186 ∧ 79 ≤ i ∧ i ≤ 119)) → w'.1 k i = w.1 k i ∧ w'.2 k i = w.2 k i := fun k i hki => hF k i (fun ⟨r, z, z1, z2, z3⟩ => by
    simp only [sm_93_35fa1572, List.mem_cons, List.not_mem_nil, or_false] at z
    rcases z with rfl
    all_goals (simp only at z1 z2 z3; omega))
  simp only [sm_93_35fa1572, List.mem_cons, List.not_mem_nil, or_false] at hq
  rcases hq with rfl
  · obtain rfl : r = none := by
      match r, hr with
      | none, _ => rfl
    exact ⟨w', hC, hG', hfr, (trivial)⟩
set_option maxRecDepth 100000 in
theorem xl_e53b37ae : ia_pl (ia_cls 96) 366 = some (1, 93, 0, 0, 1947) := by decide +kernel
set_option maxRecDepth 100000 in
theorem xn_dd19ae12 : ia_na 93 = 1 := by decide +kernel
set_option maxRecDepth 100000 in
theorem xc_cefe56c4 : ia_mc 93 = 0 ∧ ia_ms 93 = 0 := ⟨by decide +kernel, by decide +kernel⟩
set_option maxRecDepth 100000 in
theorem xv_21d4a8c2 : cm_rcv 93 [.inr (.inr (some 184))] = true := by decide +kernel
set_option maxRecDepth 100000 in
theorem xd_307f7c6a : decode (ia_code 96) 278 = .ok (.invokevirtual 366, 3) := fdd_d (by decide +kernel)
set_option maxRecDepth 100000 in
theorem xd_fe20634b : decode (ia_code 96) 224 = .ok (.aload_n 0, 1) := fdd_d (by decide +kernel)
set_option maxRecDepth 100000 in
theorem xd_788ed64b : decode (ia_code 96) 225 = .ok (.getfield 77, 3) := fdd_d (by decide +kernel)
set_option maxRecDepth 100000 in
theorem xd_d4cb9f01 : decode (ia_code 96) 228 = .ok (.iconst 1, 1) := fdd_d (by decide +kernel)
set_option maxRecDepth 100000 in
theorem xd_3ce12e99 : decode (ia_code 96) 229 = .ok (.iaload, 1) := fdd_d (by decide +kernel)
set_option maxRecDepth 100000 in
theorem xd_e5f70788 : decode (ia_code 96) 230 = .ok (.ifCond .le 43, 3) := fdd_d (by decide +kernel)
set_option maxRecDepth 100000 in
theorem xd_09bc9ec2 : decode (ia_code 96) 233 = .ok (.aload_n 0, 1) := fdd_d (by decide +kernel)
set_option maxRecDepth 100000 in
theorem xs_121_30dd1ae4_86b8 {w : cm_W} (hG : sv_w sg w) : ∃ w' : cm_W, cm_C 1 121 [.inr (.inr (some 184))] w (none, w') ∧ sv_w sg w' ∧ (∀ k i, ¬ ((k = 184 ∧ i = 23) ∨ (k = 191 ∧ 0 ≤ i ∧ i ≤ 327)) → w'.1 k i = w.1 k i ∧ w'.2 k i = w.2 k i) ∧ ((1 ≤ (w'.1 184 23).toInt ∧ (w'.1 184 23).toInt ≤ 8)) := by
  obtain ⟨r, w', hC, hG', hF, q, hq, hr, hp, hs⟩ := wk_use (d := 1) sm_121_30dd1ae4_ok (by decide) (as := [.inr (.inr (some 184))]) (w := w) ⟨rfl, trivial⟩ (fun f hf => by
    rcases List.mem_cons.mp hf with rfl | hf
    · exact ⟨(by have h9 := hG 184 23; rw [xg_14fa25fd] at h9; exact h9), .inl rfl, .inl rfl⟩
    cases hf) hG
  have hfr : ∀ k i, ¬ ((k = 184 ∧ i = 23) ∨ (k = 191 ∧ 0 ≤ i ∧ i ≤ 327)) → w'.1 k i = w.1 k i ∧ w'.2 k i = w.2 k i := fun k i hki => hF k i (fun ⟨r, z, z1, z2, z3⟩ => by
    simp only [sm_121_30dd1ae4, List.mem_cons, List.not_mem_nil, or_false] at z
    rcases z with rfl | rfl
    all_goals (simp only at z1 z2 z3; omega))
  simp only [sm_121_30dd1ae4, List.mem_cons, List.not_mem_nil, or_false] at hq
  rcases hq with rfl
  · obtain rfl : r = none := by
      match r, hr with
      | none, _ => rfl
    have s0 := hs _ List.mem_cons_self
    have t0 := hb_in (lo := 2147483649) (hi := 2147483656) (x := w'.1 184 23) s0.1
    exact ⟨w', hC, hG', hfr, ⟨by omega, by omega⟩⟩
set_option maxRecDepth 100000 in
theorem xl_bea71498 : ia_pl (ia_cls 96) 306 = some (1, 121, 0, 0, 1818) := by decide +kernel
set_option maxRecDepth 100000 in
theorem xn_30df38d0 : ia_na 121 = 1 := by decide +kernel
set_option maxRecDepth 100000 in
theorem xc_82065356 : ia_mc 121 = 0 ∧ ia_ms 121 = 0 := ⟨by decide +kernel, by decide +kernel⟩
set_option maxRecDepth 100000 in
theorem xv_8b4f0ee4 : cm_rcv 121 [.inr (.inr (some 184))] = true := by decide +kernel
set_option maxRecDepth 100000 in
theorem xd_db0c6091 : decode (ia_code 96) 234 = .ok (.invokevirtual 306, 3) := fdd_d (by decide +kernel)
set_option maxRecDepth 100000 in
theorem xd_ae424425 : decode (ia_code 96) 237 = .ok (.iconst 0, 1) := fdd_d (by decide +kernel)
set_option maxRecDepth 100000 in
theorem xd_18a1f812 : decode (ia_code 96) 238 = .ok (.istore_n 3, 1) := fdd_d (by decide +kernel)
set_option maxRecDepth 100000 in
theorem xd_a648f997 : decode (ia_code 96) 0 = .ok (.aload_n 0, 1) := fdd_d (by decide +kernel)
set_option maxRecDepth 100000 in
theorem xd_1bb7aa4c : decode (ia_code 96) 1 = .ok (.iconst 0, 1) := fdd_d (by decide +kernel)
set_option maxRecDepth 100000 in
theorem xd_7be192ce : decode (ia_code 96) 2 = .ok (.putfield 1, 3) := fdd_d (by decide +kernel)
set_option maxRecDepth 100000 in
theorem xf_a01198a8 : wk_pf 96 1 184 0 0 = true := by decide +kernel
set_option maxRecDepth 100000 in
theorem xd_5a04480d : decode (ia_code 96) 5 = .ok (.iload_n 1, 1) := fdd_d (by decide +kernel)
set_option maxRecDepth 100000 in
theorem xd_7e6e940c : decode (ia_code 96) 6 = .ok (.iconst 0, 1) := fdd_d (by decide +kernel)
set_option maxRecDepth 100000 in
theorem xd_5426d97c : decode (ia_code 96) 7 = .ok (.iconst 1, 1) := fdd_d (by decide +kernel)
set_option maxRecDepth 100000 in
theorem xl_6db9d33b : ia_pl (ia_cls 96) 182 = some (1, 115, 1, 0, 1687) := by decide +kernel
set_option maxRecDepth 100000 in
theorem xd_e3f24d09 : decode (ia_code 96) 8 = .ok (.invokestatic 182, 3) := fdd_d (by decide +kernel)
set_option maxRecDepth 100000 in
theorem xd_8968bd52 : decode (ia_code 96) 11 = .ok (.ifCond .ne 7, 3) := fdd_d (by decide +kernel)
set_option maxRecDepth 100000 in
theorem xd_e61cd073 : decode (ia_code 96) 18 = .ok (.aload_n 0, 1) := fdd_d (by decide +kernel)
set_option maxRecDepth 100000 in
theorem xd_408409a9 : decode (ia_code 96) 19 = .ok (.sipush 400, 3) := fdd_d (by decide +kernel)
set_option maxRecDepth 100000 in
theorem xl_8422bd3b : ia_pl (ia_cls 96) 232 = some (1, 145, 0, 0, 1642) := by decide +kernel
set_option maxRecDepth 100000 in
theorem xd_38c72314 : decode (ia_code 96) 22 = .ok (.invokevirtual 232, 3) := fdd_d (by decide +kernel)
set_option maxRecDepth 100000 in
theorem xd_2594713a : decode (ia_code 96) 25 = .ok (.aload_n 0, 1) := fdd_d (by decide +kernel)
set_option maxRecDepth 100000 in
theorem xd_3aea09db : decode (ia_code 96) 26 = .ok (.iconst 0, 1) := fdd_d (by decide +kernel)
set_option maxRecDepth 100000 in
theorem xd_66c1c8cf : decode (ia_code 96) 27 = .ok (.putfield 167, 3) := fdd_d (by decide +kernel)
set_option maxRecDepth 100000 in
theorem xf_671255ee : wk_pf 96 167 184 15 0 = true := by decide +kernel
set_option maxRecDepth 100000 in
theorem xd_3f9e5f5a : decode (ia_code 96) 30 = .ok (.aload_n 0, 1) := fdd_d (by decide +kernel)
set_option maxRecDepth 100000 in
theorem xd_c440dd4f : decode (ia_code 96) 31 = .ok (.iconst 0, 1) := fdd_d (by decide +kernel)
set_option maxRecDepth 100000 in
theorem xd_e4ad3aeb : decode (ia_code 96) 32 = .ok (.putfield 394, 3) := fdd_d (by decide +kernel)
set_option maxRecDepth 100000 in
theorem xd_a4b1141d : decode (ia_code 96) 35 = .ok (.aload_n 0, 1) := fdd_d (by decide +kernel)
set_option maxRecDepth 100000 in
theorem xl_013e267d : ia_pl (ia_cls 96) 179 = some (1, 129, 0, 0, 1646) := by decide +kernel
set_option maxRecDepth 100000 in
theorem xd_2f2bec60 : decode (ia_code 96) 36 = .ok (.invokevirtual 179, 3) := fdd_d (by decide +kernel)
set_option maxRecDepth 100000 in
theorem xd_c368f3f1 : decode (ia_code 96) 83 = .ok (.aload_n 0, 1) := fdd_d (by decide +kernel)
set_option maxRecDepth 100000 in
theorem xs_147_35fa1572 {w : cm_W} (hG : sv_w sg w) : ∃ w' : cm_W, cm_C 1 147 [.inr (.inr (some 184))] w (none, w') ∧ sv_w sg w' ∧ (∀ k i, ¬ ((k = 192 ∧ 0 ≤ i ∧ i ≤ 40)) → w'.1 k i = w.1 k i ∧ w'.2 k i = w.2 k i) ∧ ((True)) := by
  obtain ⟨r, w', hC, hG', hF, q, hq, hr, hp, hs⟩ := wk_use (d := 1) sm_147_35fa1572_ok (by decide) (as := [.inr (.inr (some 184))]) (w := w) ⟨rfl, trivial⟩ (fun f hf => by
    cases hf) hG
  have hfr : ∀ k i, ¬ ((k = 192 ∧ 0 ≤ i ∧ i ≤ 40)) → w'.1 k i = w.1 k i ∧ w'.2 k i = w.2 k i := fun k i hki => hF k i (fun ⟨r, z, z1, z2, z3⟩ => by
    simp only [sm_147_35fa1572, List.mem_cons, List.not_mem_nil, or_false] at z
    rcases z with rfl
    all_goals (simp only at z1 z2 z3; omega))
  simp only [sm_147_35fa1572, List.mem_cons, List.not_mem_nil, or_false] at hq
  rcases hq with rfl
  · obtain rfl : r = none := by
      match r, hr with
      | none, _ => rfl
    exact ⟨w', hC, hG', hfr, (trivial)⟩
set_option maxRecDepth 100000 in
theorem xl_8437065c : ia_pl (ia_cls 96) 363 = some (1, 147, 0, 0, 1943) := by decide +kernel
set_option maxRecDepth 100000 in
theorem xn_69c62e6d : ia_na 147 = 1 := by decide +kernel
set_option maxRecDepth 100000 in
theorem xc_86e865c1 : ia_mc 147 = 0 ∧ ia_ms 147 = 0 := ⟨by decide +kernel, by decide +kernel⟩
set_option maxRecDepth 100000 in
theorem xv_e66d8a7a : cm_rcv 147 [.inr (.inr (some 184))] = true := by decide +kernel
set_option maxRecDepth 100000 in
theorem xd_0e9cdb04 : decode (ia_code 96) 84 = .ok (.invokevirtual 363, 3) := fdd_d (by decide +kernel)
set_option maxRecDepth 100000 in
theorem xd_c0edfdd4 : decode (ia_code 96) 87 = .ok (.iconst 0, 1) := fdd_d (by decide +kernel)
set_option maxRecDepth 100000 in
theorem xd_9adb64d9 : decode (ia_code 96) 88 = .ok (.istore_n 2, 1) := fdd_d (by decide +kernel)
set_option maxRecDepth 100000 in
theorem xd_968c326a : decode (ia_code 96) 107 = .ok (.iconst (-1), 1) := fdd_d (by decide +kernel)
set_option maxRecDepth 100000 in
theorem xd_e27b8a09 : decode (ia_code 96) 108 = .ok (.istore_n 2, 1) := fdd_d (by decide +kernel)
set_option maxRecDepth 100000 in
theorem xd_4b0ba8b0 : decode (ia_code 96) 109 = .ok (.iconst 0, 1) := fdd_d (by decide +kernel)
set_option maxRecDepth 100000 in
theorem xd_a89d0f09 : decode (ia_code 96) 110 = .ok (.istore_n 3, 1) := fdd_d (by decide +kernel)
set_option maxRecDepth 100000 in
theorem xd_f2e1666b : decode (ia_code 96) 14 = .ok (.sipush (-1000), 3) := fdd_d (by decide +kernel)
set_option maxRecDepth 100000 in
theorem xd_47839c11 : decode (ia_code 96) 17 = .ok (.ireturn, 1) := fdd_d (by decide +kernel)
theorem jbo_a (w1 : cm_W) (k : Int32) (Q : cm_O → Prop) (hk1 : ∀ x w, jOf w1 w → sv_w sg w → Q (some (.inl x), w)) (hk2 : ∀ (w : cm_W) (n : Nat), (w.1 184 35).toInt = (n : Int) → n ≤ 40 → (∀ i, i < n → jBr (fun j => w.1 188 j) i) → jOf w1 w → sv_w sg w → cm_X (cm_C 7) 96 83 [some (.inr (.inr (some 184))), some (.inl k), none, none] [] w Q) : ∀ (m n : Nat) (w : cm_W), 941 - (w.1 184 4).toInt.toNat < m → (w.1 184 35).toInt = (n : Int) → n ≤ 40 → (∀ i, i < n → jBr (fun j => w.1 188 j) i) → jOf w1 w → sv_w sg w → cm_X (cm_C 7) 96 39 [some (.inr (.inr (some 184))), some (.inl k), none, none] [] w Q := by
  intro m
  induction m with
  | zero =>
    intro n w hm
    omega
  | succ m ih =>
    intro n w hm hn hn4 hrows hF hG
    refine wk_aload_n xd_a454f6a8 rfl ?_
    refine wk_getI xf_32aa8f7b xd_69531934 ?_
    refine wk_if xd_729de104 (t := 83) rfl (fun h43_0 => ?_) (fun h43_0 => ?_)
    · have h43_0 := aw_eq_t (a := ((w.1 184 11).toInt : Int)) (b := (0 : Int)) rfl hb_z h43_0
      exact hk2 w n hn hn4 hrows hF hG
    · have h43_0 := aw_eq_f (a := ((w.1 184 11).toInt : Int)) (b := (0 : Int)) rfl hb_z h43_0
      refine wk_aload_n xd_e34c1a57 rfl ?_
      obtain ⟨xl, wl, hCl, hGl, hFl, hl1, hl2⟩ := jbl_ok (w := w) hn hG
      refine wk_call (kd := 0) (i := 397) xd_8bfcd81c rfl (wk_cal (as := [.inr (.inr (some 184))]) (t := []) xl_abde85c4 rfl xn_654e1d40 xc_24fe0a6b rfl rfl xv_5b4c2490 rfl) (cm_C_mono (by decide) hCl) ?_
      have hfl : jOf w1 wl := fun k i x1 x2 x3 x4 x5 x6 => (hFl k i (by omega) (by omega)).trans (hF k i x1 x2 x3 x4 x5 x6)
      refine wk_if xd_eab1f309 (t := 62) rfl (fun h50_1 => ?_) (fun h50_1 => ?_)
      · have h50_1 := aw_eq_t (a := ((xl).toInt : Int)) (b := (0 : Int)) rfl hb_z h50_1
        refine wk_bipush xd_56f36cdb ?_
        refine wk_aload_n xd_d7e105b1 rfl ?_
        refine wk_getI xf_d5a2ff81 xd_340abef4 ?_
        refine wk_isub xd_0658daf7 ?_
        exact wk_ireturn xd_f195aee1 xr_09d975e0 rfl (hk1 _ _ hfl hGl)
      · have h50_1 := aw_eq_f (a := ((xl).toInt : Int)) (b := (0 : Int)) rfl hb_z h50_1
        refine wk_aload_n xd_f9463437 rfl ?_
        refine wk_bipush xd_9f667fba ?_
        obtain ⟨xg, wg, hCg, hGg, hFg, hg1, hg2⟩ := jsg_ok (w := wl) (a := ((Int8.ofInt 59).toInt32)) hGl
        refine wk_call (kd := 0) (i := 241) xd_e168d8ad rfl (wk_cal (as := [.inr (.inr (some 184)), .inl ((Int8.ofInt 59).toInt32)]) (t := []) xl_bcc63218 rfl xn_436503f1 xc_bbf8acc6 rfl rfl xv_db1e3c86 rfl) (cm_C_mono (by decide) hCg) ?_
        have hfg : jOf w1 wg := fun k i x1 x2 x3 x4 x5 x6 => (hFg k i (by omega)).trans (hfl k i x1 x2 x3 x4 x5 x6)
        have hng : (wg.1 184 35).toInt = ((n : Int) : Int) := by rw [hFg 184 35 (by omega), hFl 184 35 (by omega) (by omega)]; exact hn
        refine wk_if xd_7bbbe51e (t := 70) rfl (fun h59_2 => ?_) (fun h59_2 => ?_)
        · have h59_2 := aw_ne_t (a := ((xg).toInt : Int)) (b := (0 : Int)) rfl hb_z h59_2
          rcases hl2 with h9 | ⟨-, hn40, hrow, hst⟩
          · exact absurd h9 (by omega)
          have hst := hst (by omega)
          refine wk_aload_n xd_5698c105 rfl ?_
          refine wk_dup_r xd_22ebcaf7 ?_
          refine wk_getI xf_7868cef4 xd_da50080a ?_
          refine wk_iconst xd_a5ddc66c ?_
          refine aw_iadd (a := ((n : Int) : Int)) (b := (1 : Int)) (e := ((n : Int) + 1 : Int)) xd_7f1ce15f (show ((wg.1 184 35)).toInt = ((n : Int) : Int) from hng) (show ((Int32.ofInt 1)).toInt = 1 from by decide) (by omega) (by omega) (by omega) (fun v4_ p4_ => ?_)
          refine wk_putI xf_ee2f1532 (fun ci => wk_fitI ci) xd_486561e7 ?_
          have hf5_ : jOf w1 (cm_u1 wg 184 35 v4_) := fun k i x1 x2 x3 x4 x5 x6 => (hs_u1_ne (by omega)).trans (hfg k i x1 x2 x3 x4 x5 x6)
          have hG6_ : sv_w sg (cm_u1 wg 184 35 v4_) := sv_w_u1 hGg (by rw [xg_e41a4c4a]; exact hb_mk (by rw [p4_]; omega) (by rw [p4_]; omega))
          refine wk_goto xd_bb9095d8 (t := 39) rfl ?_
          refine ih (n + 1) _ ?_ ((show (((cm_u1 wg 184 35 v4_).1 184 35)).toInt = ((n : Int) + 1 : Int) from p4_).trans (by omega)) (by omega) (fun i hi => ?_) hf5_ hG6_
          · show 941 - (wg.1 184 4).toInt.toNat < m
            have e1 := hGg 184 4
            rw [xg_efb20a0a] at e1
            have e1 := hb_in e1
            have e2 := hG 184 4
            rw [xg_efb20a0a] at e2
            have e2 := hb_in e2
            omega
          · by_cases e : i = n
            · subst e
              have ef : (fun j => wl.1 188 j) = (fun j => (cm_u1 wg 184 35 v4_).1 188 j) := funext fun j => (hFg 188 j (by omega)).symm
              rw [← ef]
              exact hrow
            · have h3 := hrows i (by omega)
              have ef : ∀ j, j < 3 * n → (cm_u1 wg 184 35 v4_).1 188 j = w.1 188 j := fun j hj => (hFg 188 j (by omega)).trans (hFl 188 j (by omega) (by omega))
              exact jBr_eq (fun j h1 h2 => (ef j (by omega)).symm) h3
        · have h59_2 := aw_ne_f (a := ((xg).toInt : Int)) (b := (0 : Int)) rfl hb_z h59_2
          refine wk_bipush xd_56f36cdb ?_
          refine wk_aload_n xd_d7e105b1 rfl ?_
          refine wk_getI xf_d5a2ff81 xd_340abef4 ?_
          refine wk_isub xd_0658daf7 ?_
          exact wk_ireturn xd_f195aee1 xr_09d975e0 rfl (hk1 _ _ hfg hGg)
theorem jbo_b (w1 : cm_W) (k : Int32) (Q : cm_O → Prop) (hk : ∀ w z, jOut 198 w1 w (4) → sv_w sg w → cm_X (cm_C 7) 96 107 [some (.inr (.inr (some 184))), some (.inl k), some (.inl z), none] [] w Q) : ∀ (n i : Nat) (z : Int32) (w : cm_W), n + i = 4 → z.toInt = (i : Int) → jOut 198 w1 w (i) → sv_w sg w → cm_X (cm_C 7) 96 89 [some (.inr (.inr (some 184))), some (.inl k), some (.inl z), none] [] w Q := by
  intro n
  induction n with
  | zero =>
    intro i z w hi hz hP hG
    refine wk_iload_n xd_0e84e333 rfl ?_
    refine wk_iconst xd_cbc78f80 ?_
    refine wk_icmp xd_7d172f5d (t := 107) rfl (fun h91_0 => ?_) (fun h91_0 => ?_)
    · have h91_0 := aw_ge_t (a := ((i : Int) : Int)) (b := (4 : Int)) hz (show ((Int32.ofInt 4)).toInt = 4 from by decide) h91_0
      exact hk w z (by have e : i = 4 := (by omega); subst e; exact hP) hG
    · have h91_0 := aw_ge_f (a := ((i : Int) : Int)) (b := (4 : Int)) hz (show ((Int32.ofInt 4)).toInt = 4 from by decide) h91_0
      exfalso
      omega
  | succ n ih =>
    intro i z w hi hz hP hG
    refine wk_iload_n xd_0e84e333 rfl ?_
    refine wk_iconst xd_cbc78f80 ?_
    refine wk_icmp xd_7d172f5d (t := 107) rfl (fun h91_1 => ?_) (fun h91_1 => ?_)
    · have h91_1 := aw_ge_t (a := ((i : Int) : Int)) (b := (4 : Int)) hz (show ((Int32.ofInt 4)).toInt = 4 from by decide) h91_1
      exfalso
      omega
    · have h91_1 := aw_ge_f (a := ((i : Int) : Int)) (b := (4 : Int)) hz (show ((Int32.ofInt 4)).toInt = 4 from by decide) h91_1
      refine wk_aload_n xd_34f40e78 rfl ?_
      refine wk_getR xf_b01a3f24 xd_bfe6644a ?_
      refine wk_iload_n xd_14d26cc0 rfl ?_
      refine wk_iconst xd_902c6b80 ?_
      refine aw_iastore (i := i) xf_42ac47a8 hz (by omega) (by omega) xd_ac1029e2 ?_
      have hG3_ : sv_w sg (cm_u1 w 198 i (Int32.ofInt 0)) := sv_w_u1 hG (by rw [show sv_g sg 198 i = sv_top from by unfold sv_g; rw [xf_7e49d172]; rfl]; exact sv_in_top _)
      refine aw_iinc (a := ((i : Int) : Int)) (b := (1 : Int)) (e := ((i : Int) + 1 : Int)) xd_fd4ea509 (by rw [xm_048ee623]; rfl) rfl rfl hz (show ((Int32.ofInt 1)).toInt = 1 from by decide) (by omega) (by omega) (by omega) (fun v4_ p4_ => ?_)
      refine wk_goto xd_639f88e6 (t := 89) rfl ?_
      refine ih (i + 1) _ _ (by omega) (by rw [p4_]; omega) ?_ hG3_
      exact fun k j hk => (hs_u1_ne (fun z => hk z.1)).trans (hP k j hk)
theorem jbo_c (w1 : cm_W) (k : Int32) (n : Nat) (hn40 : n ≤ 40) (Q : cm_O → Prop) (hk : ∀ w x z, jOf w1 w → sv_w sg w → cm_X (cm_C 7) 96 191 [some (.inr (.inr (some 184))), some (.inl k), some (.inl x), some (.inl z)] [] w Q) : ∀ (m i : Nat) (x z : Int32) (w : cm_W), m + i = n → z.toInt = (i : Int) → (w.1 184 35).toInt = (n : Int) → (∀ i, i < n → jBr (fun j => w.1 188 j) i) → jOf w1 w → sv_w sg w → cm_X (cm_C 7) 96 111 [some (.inr (.inr (some 184))), some (.inl k), some (.inl x), some (.inl z)] [] w Q := by
  intro m
  induction m with
  | zero =>
    intro i x z w hi hz hn hrows hF hG
    refine wk_iload_n xd_155f9eca rfl ?_
    refine wk_aload_n xd_7e190e4a rfl ?_
    refine wk_getI xf_7868cef4 xd_851c5710 ?_
    refine wk_icmp xd_9d164417 (t := 191) rfl (fun h116_0 => ?_) (fun h116_0 => ?_)
    · have h116_0 := aw_ge_t (a := ((i : Int) : Int)) (b := ((n : Int) : Int)) hz (show ((w.1 184 35)).toInt = ((n : Int) : Int) from hn) h116_0
      exact hk w _ _ hF hG
    · have h116_0 := aw_ge_f (a := ((i : Int) : Int)) (b := ((n : Int) : Int)) hz (show ((w.1 184 35)).toInt = ((n : Int) : Int) from hn) h116_0
      exfalso
      omega
  | succ m ih =>
    intro i x z w hi hz hn hrows hF hG
    refine wk_iload_n xd_155f9eca rfl ?_
    refine wk_aload_n xd_7e190e4a rfl ?_
    refine wk_getI xf_7868cef4 xd_851c5710 ?_
    refine wk_icmp xd_9d164417 (t := 191) rfl (fun h116_1 => ?_) (fun h116_1 => ?_)
    · have h116_1 := aw_ge_t (a := ((i : Int) : Int)) (b := ((n : Int) : Int)) hz (show ((w.1 184 35)).toInt = ((n : Int) : Int) from hn) h116_1
      exfalso
      omega
    · have h116_1 := aw_ge_f (a := ((i : Int) : Int)) (b := ((n : Int) : Int)) hz (show ((w.1 184 35)).toInt = ((n : Int) : Int) from hn) h116_1
      refine wk_iload_n xd_2886f45c rfl ?_
      refine wk_if xd_3f4b2eea (t := 191) rfl (fun h120_2 => ?_) (fun h120_2 => ?_)
      · have h120_2 := aw_ge_t (a := ((x).toInt : Int)) (b := (0 : Int)) rfl hb_z h120_2
        exact hk w _ _ hF hG
      · have h120_2 := aw_ge_f (a := ((x).toInt : Int)) (b := (0 : Int)) rfl hb_z h120_2
        refine wk_aload_n xd_bd744db6 rfl ?_
        refine wk_getR xf_b01a3f24 xd_6e916b86 ?_
        refine wk_iconst xd_6d2f07d9 ?_
        refine wk_aload_n xd_cb2837ad rfl ?_
        refine wk_aload_n xd_505bdd79 rfl ?_
        refine wk_getR xf_b71e4a0b xd_46852954 ?_
        refine wk_iconst xd_ed5d04dd ?_
        refine wk_iload_n xd_574b1982 rfl ?_
        refine aw_imul (a := (3 : Int)) (b := ((i : Int) : Int)) (e := (3 * (i : Int) : Int)) xd_4fe7fdbc (show ((Int32.ofInt 3)).toInt = 3 from by decide) hz (by omega) (by omega) (by omega) (fun v4_ p4_ => ?_)
        refine aw_iaload (i := (3 * i)) xf_659780ae p4_ (by omega) (by omega) xd_e6dc7066 ?_
        refine wk_aload_n xd_3c0d8902 rfl ?_
        refine wk_getR xf_b71e4a0b xd_6a8ebae3 ?_
        refine wk_iconst xd_b5b455f3 ?_
        refine wk_iload_n xd_8b995c8f rfl ?_
        refine aw_imul (a := (3 : Int)) (b := ((i : Int) : Int)) (e := (3 * (i : Int) : Int)) xd_0ba5ca72 (show ((Int32.ofInt 3)).toInt = 3 from by decide) hz (by omega) (by omega) (by omega) (fun v5_ p5_ => ?_)
        refine wk_iconst xd_84fdf153 ?_
        refine aw_iadd (a := (3 * (i : Int) : Int)) (b := (1 : Int)) (e := (3 * (i : Int) + 1 : Int)) xd_3a83867c p5_ (show ((Int32.ofInt 1)).toInt = 1 from by decide) (by omega) (by omega) (by omega) (fun v6_ p6_ => ?_)
        refine aw_iaload (i := (1 + 3 * i)) xf_659780ae p6_ (by omega) (by omega) xd_8f3bf63e ?_
        refine wk_aload_n xd_0d15be75 rfl ?_
        refine wk_getR xf_b71e4a0b xd_b24dc1c5 ?_
        refine wk_iconst xd_2ec7bf27 ?_
        refine wk_iload_n xd_0abc39a8 rfl ?_
        refine aw_imul (a := (3 : Int)) (b := ((i : Int) : Int)) (e := (3 * (i : Int) : Int)) xd_dc474a2a (show ((Int32.ofInt 3)).toInt = 3 from by decide) hz (by omega) (by omega) (by omega) (fun v7_ p7_ => ?_)
        refine wk_iconst xd_582e6157 ?_
        refine aw_iadd (a := (3 * (i : Int) : Int)) (b := (2 : Int)) (e := (3 * (i : Int) + 2 : Int)) xd_ed610624 p7_ (show ((Int32.ofInt 2)).toInt = 2 from by decide) (by omega) (by omega) (by omega) (fun v8_ p8_ => ?_)
        refine aw_iaload (i := (2 + 3 * i)) xf_659780ae p8_ (by omega) (by omega) xd_10e175a0 ?_
        have hr := hrows i (by omega)
        unfold jBr at hr
        rw [show 3 * i + 1 = 1 + 3 * i from by omega, show 3 * i + 2 = 2 + 3 * i from by omega] at hr
        obtain ⟨xd, wd, hCd, hGd, hFd⟩ := jdo_ok (w := w) (a := (w.1 188 (3 * i))) (b := (w.1 188 (1 + 3 * i))) (c := (w.1 188 (2 + 3 * i))) hr hG
        refine wk_call (kd := 0) (i := 400) xd_909b34e6 rfl (wk_cal (as := [.inr (.inr (some 184)), .inl (w.1 188 (3 * i)), .inl (w.1 188 (1 + 3 * i)), .inl (w.1 188 (2 + 3 * i))]) (t := [.inl (Int32.ofInt 0), .inr (.inr (some 198))]) xl_603c62c6 rfl xn_5138cfca xc_0c0d3b33 rfl rfl xv_c9e1178c rfl) (cm_C_mono (by decide) hCd) ?_
        have hfd : jOf w1 wd := fun k i x1 x2 x3 x4 x5 x6 => (hFd k i (by omega)).trans (hF k i x1 x2 x3 x4 x5 x6)
        refine aw_iastore (i := 0) xf_42ac47a8 (show ((Int32.ofInt 0)).toInt = 0 from by decide) (by omega) (by omega) xd_dee17362 ?_
        have hf9_ : jOf w1 (cm_u1 wd 198 0 xd) := fun k i x1 x2 x3 x4 x5 x6 => (hs_u1_ne (by omega)).trans (hfd k i x1 x2 x3 x4 x5 x6)
        have hG10_ : sv_w sg (cm_u1 wd 198 0 xd) := sv_w_u1 hGd (by rw [xg_9aa8d587]; exact sv_in_top _)
        refine wk_aload_n xd_39e40000 rfl ?_
        refine wk_getR xf_b01a3f24 xd_2fde91fe ?_
        refine wk_iconst xd_43236fca ?_
        refine aw_iaload (i := 0) xf_42ac47a8 (show ((Int32.ofInt 0)).toInt = 0 from by decide) (by omega) (by omega) xd_6bfff743 ?_
        refine wk_if xd_a01e1283 (t := 175) rfl (fun h167_10 => ?_) (fun h167_10 => ?_)
        · have h167_10 := aw_le_t (a := ((xd).toInt : Int)) (b := (0 : Int)) (show (((cm_u1 wd 198 0 xd).1 198 0)).toInt = ((xd).toInt : Int) from rfl) hb_z h167_10
          refine wk_aload_n xd_b89dc4b4 rfl ?_
          refine wk_getR xf_b01a3f24 xd_337e7d92 ?_
          refine wk_iconst xd_00d219ae ?_
          refine wk_dup2 xd_19302016 ?_
          refine aw_iaload (i := 1) xf_42ac47a8 (show ((Int32.ofInt 1)).toInt = 1 from by decide) (by omega) (by omega) xd_59745d60 ?_
          refine wk_iconst xd_f6e94966 ?_
          refine wk_iadd xd_d4362a9e ?_
          refine aw_iastore (i := 1) xf_42ac47a8 (show ((Int32.ofInt 1)).toInt = 1 from by decide) (by omega) (by omega) xd_07aa0b59 ?_
          have hf12_ : jOf w1 (cm_u1 (cm_u1 wd 198 0 xd) 198 1 (((cm_u1 wd 198 0 xd).1 198 1) + (Int32.ofInt 1))) := fun k i x1 x2 x3 x4 x5 x6 => (hs_u1_ne (by omega)).trans (hf9_ k i x1 x2 x3 x4 x5 x6)
          have hG13_ : sv_w sg (cm_u1 (cm_u1 wd 198 0 xd) 198 1 (((cm_u1 wd 198 0 xd).1 198 1) + (Int32.ofInt 1))) := sv_w_u1 hG10_ (by rw [xg_756abeb9]; exact sv_in_top _)
          refine aw_iinc (a := ((i : Int) : Int)) (b := (1 : Int)) (e := ((i : Int) + 1 : Int)) xd_07217e9b (by rw [xm_048ee623]; rfl) rfl rfl hz (show ((Int32.ofInt 1)).toInt = 1 from by decide) (by omega) (by omega) (by omega) (fun v14_ p14_ => ?_)
          refine wk_goto xd_da872d81 (t := 111) rfl ?_
          exact ih (i + 1) _ _ _ (by omega) (by rw [p14_]; omega) (by rw [hs_u1_ne (by omega), hs_u1_ne (by omega), hFd 184 35 (by omega)]; exact hn) (fun q hq => by have h3 := hrows q hq; have ef : (fun j => (cm_u1 (cm_u1 wd 198 0 xd) 198 1 (((cm_u1 wd 198 0 xd).1 198 1) + (Int32.ofInt 1))).1 188 j) = (fun j => w.1 188 j) := funext fun j => (by rw [hs_u1_ne (by omega), hs_u1_ne (by omega), hFd 188 j (by omega)]); rw [ef]; exact h3) hf12_ hG13_
        · have h167_10 := aw_le_f (a := ((xd).toInt : Int)) (b := (0 : Int)) (show (((cm_u1 wd 198 0 xd).1 198 0)).toInt = ((xd).toInt : Int) from rfl) hb_z h167_10
          refine wk_iload_n xd_3e11264e rfl ?_
          refine wk_istore_n xd_7f032f38 (by rw [xm_048ee623]; rfl) rfl ?_
          refine wk_goto xd_9ae86865 (t := 185) rfl ?_
          refine aw_iinc (a := ((i : Int) : Int)) (b := (1 : Int)) (e := ((i : Int) + 1 : Int)) xd_07217e9b (by rw [xm_048ee623]; rfl) rfl rfl hz (show ((Int32.ofInt 1)).toInt = 1 from by decide) (by omega) (by omega) (by omega) (fun v15_ p15_ => ?_)
          refine wk_goto xd_da872d81 (t := 111) rfl ?_
          exact ih (i + 1) _ _ _ (by omega) (by rw [p15_]; omega) (by rw [hs_u1_ne (by omega), hFd 184 35 (by omega)]; exact hn) (fun q hq => by have h3 := hrows q hq; have ef : (fun j => (cm_u1 wd 198 0 xd).1 188 j) = (fun j => w.1 188 j) := funext fun j => (by rw [hs_u1_ne (by omega), hFd 188 j (by omega)]); rw [ef]; exact h3) hf9_ hG10_
theorem jbo_d (w1 : cm_W) (k x : Int32) (u : Nat) (hu : u < 8) (hum : (w1.1 184 23).toInt = ((u : Int) + 1 : Int)) (Q : cm_O → Prop) (hk : ∀ w z, jOut 191 w1 w (41) → sv_w sg w → cm_X (cm_C 7) 96 273 [some (.inr (.inr (some 184))), some (.inl k), some (.inl x), some (.inl z)] [] w Q) : ∀ (n i : Nat) (z : Int32) (w : cm_W), n + i = 41 → z.toInt = (i : Int) → jOut 191 w1 w (i) → sv_w sg w → cm_X (cm_C 7) 96 239 [some (.inr (.inr (some 184))), some (.inl k), some (.inl x), some (.inl z)] [] w Q := by
  intro n
  induction n with
  | zero =>
    intro i z w hi hz hP hG
    have hu23 : (w.1 184 23).toInt = ((u : Int) + 1 : Int) := by rw [hP 184 23 (by decide)]; exact hum
    refine wk_iload_n xd_f930a7b0 rfl ?_
    refine wk_bipush xd_a5f4dbcf ?_
    refine wk_icmp xd_8518ca58 (t := 273) rfl (fun h242_0 => ?_) (fun h242_0 => ?_)
    · have h242_0 := aw_ge_t (a := ((i : Int) : Int)) (b := (41 : Int)) hz (show (((Int8.ofInt 41).toInt32)).toInt = 41 from by decide) h242_0
      exact hk w z (by have e : i = 41 := (by omega); subst e; exact hP) hG
    · have h242_0 := aw_ge_f (a := ((i : Int) : Int)) (b := (41 : Int)) hz (show (((Int8.ofInt 41).toInt32)).toInt = 41 from by decide) h242_0
      exfalso
      omega
  | succ n ih =>
    intro i z w hi hz hP hG
    have hu23 : (w.1 184 23).toInt = ((u : Int) + 1 : Int) := by rw [hP 184 23 (by decide)]; exact hum
    refine wk_iload_n xd_f930a7b0 rfl ?_
    refine wk_bipush xd_a5f4dbcf ?_
    refine wk_icmp xd_8518ca58 (t := 273) rfl (fun h242_1 => ?_) (fun h242_1 => ?_)
    · have h242_1 := aw_ge_t (a := ((i : Int) : Int)) (b := (41 : Int)) hz (show (((Int8.ofInt 41).toInt32)).toInt = 41 from by decide) h242_1
      exfalso
      omega
    · have h242_1 := aw_ge_f (a := ((i : Int) : Int)) (b := (41 : Int)) hz (show (((Int8.ofInt 41).toInt32)).toInt = 41 from by decide) h242_1
      refine wk_aload_n xd_d56edbcf rfl ?_
      refine wk_getR xf_da590837 xd_8d55c0b2 ?_
      refine wk_bipush xd_3e3e723d ?_
      refine wk_aload_n xd_54171f7b rfl ?_
      refine wk_getI xf_90b12ec0 xd_1b77858f ?_
      refine wk_iconst xd_50b8d66f ?_
      refine aw_isub (a := ((u : Int) + 1 : Int)) (b := (1 : Int)) (e := ((u : Int) : Int)) xd_1fc53ff5 (show ((w.1 184 23)).toInt = ((u : Int) + 1 : Int) from hu23) (show ((Int32.ofInt 1)).toInt = 1 from by decide) (by omega) (by omega) (by omega) (fun v3_ p3_ => ?_)
      refine aw_imul (a := (41 : Int)) (b := ((u : Int) : Int)) (e := (41 * (u : Int) : Int)) xd_7846d0e6 (show (((Int8.ofInt 41).toInt32)).toInt = 41 from by decide) p3_ (by omega) (by omega) (by omega) (fun v4_ p4_ => ?_)
      refine wk_iload_n xd_d27e1f34 rfl ?_
      refine aw_iadd (a := (41 * (u : Int) : Int)) (b := ((i : Int) : Int)) (e := (41 * (u : Int) + (i : Int) : Int)) xd_5e3132e4 p4_ hz (by omega) (by omega) (by omega) (fun v5_ p5_ => ?_)
      refine wk_aload_n xd_977a5c87 rfl ?_
      refine wk_getR xf_b8f80fc8 xd_11ef0da5 ?_
      refine wk_iload_n xd_8a8554a9 rfl ?_
      refine aw_iaload (i := i) xf_4b87c8a1 hz (by omega) (by omega) xd_fd2e17c9 ?_
      refine aw_iastore (i := (41 * u + i)) xf_3506d7ff p5_ (by omega) (by omega) xd_5e394f99 ?_
      have hG6_ : sv_w sg (cm_u1 w 191 (41 * u + i) (w.1 192 i)) := sv_w_u1 hG (aw_inc (xi_b51649f3 u hu i (by omega)) (hG 192 i))
      refine aw_iinc (a := ((i : Int) : Int)) (b := (1 : Int)) (e := ((i : Int) + 1 : Int)) xd_9c1c2f6f (by rw [xm_048ee623]; rfl) rfl rfl hz (show ((Int32.ofInt 1)).toInt = 1 from by decide) (by omega) (by omega) (by omega) (fun v7_ p7_ => ?_)
      refine wk_goto xd_3a9054d6 (t := 239) rfl ?_
      refine ih (i + 1) _ _ (by omega) (by rw [p7_]; omega) ?_ hG6_
      exact fun k j hk => (hs_u1_ne (fun z => hk z.1)).trans (hP k j hk)
theorem jbo_e (w1 : cm_W) (k x z : Int32) (w : cm_W) (Q : cm_O → Prop) (hk : ∀ x w, jOf w1 w → sv_w sg w → Q (some (.inl x), w)) (hF : jOf w1 w) (hG : sv_w sg w) : cm_X (cm_C 7) 96 191 [some (.inr (.inr (some 184))), some (.inl k), some (.inl x), some (.inl z)] [] w Q := by
  refine wk_aload_n xd_daf10bc9 rfl ?_
  refine wk_getR xf_b01a3f24 xd_a234c764 ?_
  refine wk_iconst xd_4fe3e722 ?_
  refine wk_aload_n xd_ac489367 rfl ?_
  refine wk_getR xf_c29b01b2 xd_9213f947 ?_
  refine wk_bipush xd_7a167cff ?_
  refine aw_iaload (i := 79) xf_31d67ad9 (show (((Int8.ofInt 79).toInt32)).toInt = 79 from by decide) (by omega) (by omega) xd_ea57b49c ?_
  refine aw_iastore (i := 2) xf_42ac47a8 (show ((Int32.ofInt 2)).toInt = 2 from by decide) (by omega) (by omega) xd_a1eb923c ?_
  have hf1_ : jOf w1 (cm_u1 w 198 2 (w.1 186 79)) := fun k i x1 x2 x3 x4 x5 x6 => (hs_u1_ne (by omega)).trans (hF k i x1 x2 x3 x4 x5 x6)
  have hG2_ : sv_w sg (cm_u1 w 198 2 (w.1 186 79)) := sv_w_u1 hG (by rw [xg_9e5d05ba]; exact sv_in_top _)
  refine wk_aload_n xd_271baf44 rfl ?_
  refine wk_getR xf_b01a3f24 xd_6dc49d24 ?_
  refine wk_iconst xd_439d1f88 ?_
  refine wk_aload_n xd_bc8da725 rfl ?_
  obtain ⟨xc3_, hCc3_, hxc3_⟩ := xs_109_35fa1572 (w := (cm_u1 w 198 2 (w.1 186 79))) hG2_
  refine wk_call (kd := 0) (i := 288) xd_2d42f978 rfl (wk_cal (as := [.inr (.inr (some 184))]) (t := [.inl (Int32.ofInt 3), .inr (.inr (some 198))]) xl_d779da69 rfl xn_4d67d21a xc_263c36b5 rfl rfl xv_aeae2d51 rfl) (cm_C_mono (by decide) hCc3_) ?_
  refine aw_iastore (i := 3) xf_42ac47a8 (show ((Int32.ofInt 3)).toInt = 3 from by decide) (by omega) (by omega) xd_b6c3f6fc ?_
  have hf4_ : jOf w1 (cm_u1 (cm_u1 w 198 2 (w.1 186 79)) 198 3 xc3_) := fun k i x1 x2 x3 x4 x5 x6 => (hs_u1_ne (by omega)).trans (hf1_ k i x1 x2 x3 x4 x5 x6)
  have hG5_ : sv_w sg (cm_u1 (cm_u1 w 198 2 (w.1 186 79)) 198 3 xc3_) := sv_w_u1 hG2_ (by rw [xg_719f6e84]; exact sv_in_top _)
  refine wk_aload_n xd_a63eca63 rfl ?_
  refine wk_iconst xd_50e477fc ?_
  refine wk_putI xf_944d5637 (fun _ => aw_fb (.inr (by decide))) xd_f75f569c ?_
  have hf6_ : jOf w1 (cm_u1 (cm_u1 (cm_u1 w 198 2 (w.1 186 79)) 198 3 xc3_) 184 37 (Int32.ofInt 1)) := fun k i x1 x2 x3 x4 x5 x6 => (hs_u1_ne (by omega)).trans (hf4_ k i x1 x2 x3 x4 x5 x6)
  have hG7_ : sv_w sg (cm_u1 (cm_u1 (cm_u1 w 198 2 (w.1 186 79)) 198 3 xc3_) 184 37 (Int32.ofInt 1)) := sv_w_u1 hG5_ (by rw [xg_f7707e55]; exact hb_mk (by rw [(show ((Int32.ofInt 1)).toInt = 1 from by decide)]; omega) (by rw [(show ((Int32.ofInt 1)).toInt = 1 from by decide)]; omega))
  refine wk_iload_n xd_5acb38df rfl ?_
  refine wk_iconst xd_6d88b901 ?_
  refine wk_icmp xd_2bfd3270 (t := 273) rfl (fun h221_7 => ?_) (fun h221_7 => ?_)
  · have h221_7 := aw_ne_t (a := ((k).toInt : Int)) (b := (1 : Int)) rfl (show ((Int32.ofInt 1)).toInt = 1 from by decide) h221_7
    refine wk_iload_n xd_07d9fa40 rfl ?_
    refine wk_if xd_fe6e73b1 (t := 281) rfl (fun h274_8 => ?_) (fun h274_8 => ?_)
    · have h274_8 := aw_ne_t (a := ((k).toInt : Int)) (b := (0 : Int)) rfl hb_z h274_8
      refine wk_iload_n xd_4efa58b0 rfl ?_
      exact wk_ireturn xd_204fc423 xr_09d975e0 rfl (hk _ _ hf6_ hG7_)
    · have h274_8 := aw_ne_f (a := ((k).toInt : Int)) (b := (0 : Int)) rfl hb_z h274_8
      refine wk_aload_n xd_60e6a10e rfl ?_
      obtain ⟨wc10_, hCc10_, hGc10_, hFc10_, hxc10_⟩ := xs_93_35fa1572 (w := (cm_u1 (cm_u1 (cm_u1 w 198 2 (w.1 186 79)) 198 3 xc3_) 184 37 (Int32.ofInt 1))) hG7_
      refine wk_call (kd := 0) (i := 366) xd_307f7c6a rfl (wk_cal (as := [.inr (.inr (some 184))]) (t := []) xl_e53b37ae rfl xn_dd19ae12 xc_cefe56c4 rfl rfl xv_21d4a8c2 rfl) (cm_C_mono (by decide) hCc10_) ?_
      have hf11_ : jOf w1 wc10_ := fun k i x1 x2 x3 x4 x5 x6 => ((hFc10_ k i (by omega)).1).trans (hf6_ k i x1 x2 x3 x4 x5 x6)
      refine wk_iload_n xd_4efa58b0 rfl ?_
      exact wk_ireturn xd_204fc423 xr_09d975e0 rfl (hk _ _ hf11_ hGc10_)
  · have h221_7 := aw_ne_f (a := ((k).toInt : Int)) (b := (1 : Int)) rfl (show ((Int32.ofInt 1)).toInt = 1 from by decide) h221_7
    refine wk_aload_n xd_fe20634b rfl ?_
    refine wk_getR xf_b01a3f24 xd_788ed64b ?_
    refine wk_iconst xd_d4cb9f01 ?_
    refine aw_iaload (i := 1) xf_42ac47a8 (show ((Int32.ofInt 1)).toInt = 1 from by decide) (by omega) (by omega) xd_3ce12e99 ?_
    refine wk_if xd_e5f70788 (t := 273) rfl (fun h230_11 => ?_) (fun h230_11 => ?_)
    · have h230_11 := aw_le_t (a := ((w.1 198 1).toInt : Int)) (b := (0 : Int)) rfl hb_z h230_11
      refine wk_iload_n xd_07d9fa40 rfl ?_
      refine wk_if xd_fe6e73b1 (t := 281) rfl (fun h274_12 => ?_) (fun h274_12 => ?_)
      · have h274_12 := aw_ne_t (a := ((k).toInt : Int)) (b := (0 : Int)) rfl hb_z h274_12
        refine wk_iload_n xd_4efa58b0 rfl ?_
        exact wk_ireturn xd_204fc423 xr_09d975e0 rfl (hk _ _ hf6_ hG7_)
      · have h274_12 := aw_ne_f (a := ((k).toInt : Int)) (b := (0 : Int)) rfl hb_z h274_12
        refine wk_aload_n xd_60e6a10e rfl ?_
        obtain ⟨wc14_, hCc14_, hGc14_, hFc14_, hxc14_⟩ := xs_93_35fa1572 (w := (cm_u1 (cm_u1 (cm_u1 w 198 2 (w.1 186 79)) 198 3 xc3_) 184 37 (Int32.ofInt 1))) hG7_
        refine wk_call (kd := 0) (i := 366) xd_307f7c6a rfl (wk_cal (as := [.inr (.inr (some 184))]) (t := []) xl_e53b37ae rfl xn_dd19ae12 xc_cefe56c4 rfl rfl xv_21d4a8c2 rfl) (cm_C_mono (by decide) hCc14_) ?_
        have hf15_ : jOf w1 wc14_ := fun k i x1 x2 x3 x4 x5 x6 => ((hFc14_ k i (by omega)).1).trans (hf6_ k i x1 x2 x3 x4 x5 x6)
        refine wk_iload_n xd_4efa58b0 rfl ?_
        exact wk_ireturn xd_204fc423 xr_09d975e0 rfl (hk _ _ hf15_ hGc14_)
    · have h230_11 := aw_le_f (a := ((w.1 198 1).toInt : Int)) (b := (0 : Int)) rfl hb_z h230_11
      refine wk_aload_n xd_09bc9ec2 rfl ?_
      obtain ⟨wK, hCK, hGK, hFK, hxK⟩ := xs_121_30dd1ae4_86b8 (w := (cm_u1 (cm_u1 (cm_u1 w 198 2 (w.1 186 79)) 198 3 xc3_) 184 37 (Int32.ofInt 1))) hG7_
      refine wk_call (kd := 0) (i := 306) xd_db0c6091 rfl (wk_cal (as := [.inr (.inr (some 184))]) (t := []) xl_bea71498 rfl xn_30df38d0 xc_82065356 rfl rfl xv_8b4f0ee4 rfl) (cm_C_mono (by decide) hCK) ?_
      have hf16_ : jOf w1 wK := fun k i x1 x2 x3 x4 x5 x6 => ((hFK k i (by omega)).1).trans (hf6_ k i x1 x2 x3 x4 x5 x6)
      refine wk_iconst xd_ae424425 ?_
      refine wk_istore_n xd_18a1f812 (by rw [xm_048ee623]; rfl) rfl ?_
      obtain ⟨u, hu⟩ : ∃ u : Nat, (wK.1 184 23).toInt = ((u : Int) + 1 : Int) := ⟨((wK.1 184 23).toInt - 1).toNat, by omega⟩
      refine jbo_d wK k x u (by omega) hu _ (fun w5 z5 hP5 hG5 => ?_) 41 0 _ wK (by omega) (by decide) (fun _ _ _ => rfl) hGK
      have hf5 : jOf w1 w5 := fun k i x1 x2 x3 x4 x5 x6 => (hP5 k i x3).trans (hf16_ k i x1 x2 x3 x4 x5 x6)
      refine wk_iload_n xd_07d9fa40 rfl ?_
      refine wk_if xd_fe6e73b1 (t := 281) rfl (fun h274_316 => ?_) (fun h274_316 => ?_)
      · have h274_316 := aw_ne_t (a := ((k).toInt : Int)) (b := (0 : Int)) rfl hb_z h274_316
        refine wk_iload_n xd_4efa58b0 rfl ?_
        exact wk_ireturn xd_204fc423 xr_09d975e0 rfl (hk _ _ hf5 hG5)
      · have h274_316 := aw_ne_f (a := ((k).toInt : Int)) (b := (0 : Int)) rfl hb_z h274_316
        refine wk_aload_n xd_60e6a10e rfl ?_
        obtain ⟨wc318_, hCc318_, hGc318_, hFc318_, hxc318_⟩ := xs_93_35fa1572 (w := w5) hG5
        refine wk_call (kd := 0) (i := 366) xd_307f7c6a rfl (wk_cal (as := [.inr (.inr (some 184))]) (t := []) xl_e53b37ae rfl xn_dd19ae12 xc_cefe56c4 rfl rfl xv_21d4a8c2 rfl) (cm_C_mono (by decide) hCc318_) ?_
        have hf319_ : jOf w1 wc318_ := fun k i x1 x2 x3 x4 x5 x6 => ((hFc318_ k i (by omega)).1).trans (hf5 k i x1 x2 x3 x4 x5 x6)
        refine wk_iload_n xd_4efa58b0 rfl ?_
        exact wk_ireturn xd_204fc423 xr_09d975e0 rfl (hk _ _ hf319_ hGc318_)
theorem jin_ok (w : cm_W) (a b c : Int32) : ∃ x : Int32, cm_C 1 115 [.inl a, .inl b, .inl c] w (some (.inl x), w) ∧ ((x.toInt = 1 ∧ b.toInt ≤ a.toInt ∧ a.toInt ≤ c.toInt) ∨ (x.toInt = 0 ∧ (a.toInt < b.toInt ∨ c.toInt < a.toInt))) := by
  have h : ∃ o, cm_C (0 + 1) 115 [.inl a, .inl b, .inl c] w o ∧ (fun o : cm_O => ∃ x : Int32, o = (some (.inl x), w) ∧ ((x.toInt = 1 ∧ b.toInt ≤ a.toInt ∧ a.toInt ≤ c.toInt) ∨ (x.toInt = 0 ∧ (a.toInt < b.toInt ∨ c.toInt < a.toInt)))) o := by
    refine wk_entry (by rw [xm_d1787f16]; exact Nat.le_of_ble_eq_true rfl) ?_
    rw [show cm_ent 115 [.inl a, .inl b, .inl c] = [some (.inl a), some (.inl b), some (.inl c)] from by unfold cm_ent; rw [xm_d1787f16]; rfl]
    refine wk_iload_n xd_c1fd17ef rfl ?_
    refine wk_iload_n xd_67eed48b rfl ?_
    refine wk_icmp xd_81a6b6c8 (t := 14) rfl (fun h2_0 => ?_) (fun h2_0 => ?_)
    · have h2_0 := aw_lt_t (a := ((a).toInt : Int)) (b := ((b).toInt : Int)) rfl rfl h2_0
      refine wk_iconst xd_5fe9c473 ?_
      have e : ((Int32.ofInt 0)).toInt = 0 := by decide
      exact wk_ireturn xd_cdef5f09 xr_51095b48 wk_z0 ⟨_, rfl, by omega⟩
    · have h2_0 := aw_lt_f (a := ((a).toInt : Int)) (b := ((b).toInt : Int)) rfl rfl h2_0
      refine wk_iload_n xd_5ad25ca8 rfl ?_
      refine wk_iload_n xd_56f736f5 rfl ?_
      refine wk_icmp xd_ef7c8d09 (t := 14) rfl (fun h7_1 => ?_) (fun h7_1 => ?_)
      · have h7_1 := aw_gt_t (a := ((a).toInt : Int)) (b := ((c).toInt : Int)) rfl rfl h7_1
        refine wk_iconst xd_5fe9c473 ?_
        have e : ((Int32.ofInt 0)).toInt = 0 := by decide
        exact wk_ireturn xd_cdef5f09 xr_51095b48 wk_z0 ⟨_, rfl, by omega⟩
      · have h7_1 := aw_gt_f (a := ((a).toInt : Int)) (b := ((c).toInt : Int)) rfl rfl h7_1
        refine wk_iconst xd_3e287ec3 ?_
        refine wk_goto xd_2e24e90c (t := 15) rfl ?_
        have e : ((Int32.ofInt 1)).toInt = 1 := by decide
        exact wk_ireturn xd_cdef5f09 xr_51095b48 wk_z1 ⟨_, rfl, by omega⟩
  obtain ⟨o, hC, x, rfl, a⟩ := h
  exact ⟨x, hC, a⟩
theorem hPs_fr2 {w w' : cm_W} (h : ∀ i, 120 ≤ i → w'.1 186 i = w.1 186 i) (hP : hPs w) : hPs w' := by
  obtain ⟨c, hc, h1⟩ := hP
  exact ⟨c, by rw [h 120 (by omega)]; exact hc, hPf_eq (fun j _ => (h (121 + j) (by omega)).symm) h1⟩
/-- book of the reference ends -/
theorem jbo_ok {w : cm_W} {k : Int32} (hP : hPs w) (hG : sv_w sg w) : ∃ x w', cm_C 8 96 [.inr (.inr (some 184)), .inl k] w (some (.inl x), w') ∧ sv_w sg w' ∧ hPs w' ∧ (∀ c i, c ≠ 184 → c ≠ 188 → c ≠ 191 → c ≠ 192 → c ≠ 198 → ¬ (c = 186 ∧ 79 ≤ i ∧ i ≤ 119) → w'.1 c i = w.1 c i) ∧ (((k.toInt = 0 ∨ k.toInt = 1) ∧ (w'.1 184 2).toInt = 0) ∨ (¬ (k.toInt = 0 ∨ k.toInt = 1) ∧ w'.1 184 2 = w.1 184 2)) := by
  have h : ∃ o, cm_C (7 + 1) 96 [.inr (.inr (some 184)), .inl k] w o ∧ (fun o : cm_O => ∃ x w', o = (some (.inl x), w') ∧ sv_w sg w' ∧ hPs w' ∧ (∀ c i, c ≠ 184 → c ≠ 188 → c ≠ 191 → c ≠ 192 → c ≠ 198 → ¬ (c = 186 ∧ 79 ≤ i ∧ i ≤ 119) → w'.1 c i = w.1 c i) ∧ (((k.toInt = 0 ∨ k.toInt = 1) ∧ (w'.1 184 2).toInt = 0) ∨ (¬ (k.toInt = 0 ∨ k.toInt = 1) ∧ w'.1 184 2 = w.1 184 2))) o := by
    refine wk_entry (by rw [xm_048ee623]; exact Nat.le_of_ble_eq_true rfl) ?_
    rw [show cm_ent 96 [.inr (.inr (some 184)), .inl k] = [some (.inr (.inr (some 184))), some (.inl k), none, none] from by unfold cm_ent; rw [xm_048ee623]; rfl]
    refine wk_aload_n xd_a648f997 rfl ?_
    refine wk_iconst xd_1bb7aa4c ?_
    refine wk_putI xf_a01198a8 (fun ci => wk_fitI ci) xd_7be192ce ?_
    have hG1_ : sv_w sg (cm_u1 w 184 0 (Int32.ofInt 0)) := sv_w_u1 hG (by rw [xg_59f145a5]; exact hb_mk (by rw [(show ((Int32.ofInt 0)).toInt = 0 from by decide)]; omega) (by rw [(show ((Int32.ofInt 0)).toInt = 0 from by decide)]; omega))
    refine wk_iload_n xd_5a04480d rfl ?_
    refine wk_iconst xd_7e6e940c ?_
    refine wk_iconst xd_5426d97c ?_
    obtain ⟨xi, hCi, hxi⟩ := jin_ok (cm_u1 w 184 0 (Int32.ofInt 0)) k (Int32.ofInt 0) (Int32.ofInt 1)
    rw [(show ((Int32.ofInt 0)).toInt = 0 from by decide), (show ((Int32.ofInt 1)).toInt = 1 from by decide)] at hxi
    refine wk_call (kd := 1) (i := 182) xd_e3f24d09 rfl (wk_cal (as := [.inl k, .inl (Int32.ofInt 0), .inl (Int32.ofInt 1)]) (t := []) xl_6db9d33b rfl xn_adc58d92 xc_a9508f83 rfl rfl rfl rfl) (cm_C_mono (by decide) hCi) ?_
    refine wk_if xd_8968bd52 (t := 18) rfl (fun h11_1 => ?_) (fun h11_1 => ?_)
    · have h11_1 := aw_ne_t (a := ((xi).toInt : Int)) (b := (0 : Int)) rfl hb_z h11_1
      refine wk_aload_n xd_e61cd073 rfl ?_
      refine wk_sipush xd_408409a9 ?_
      refine wk_call (kd := 0) (i := 232) xd_38c72314 rfl (wk_cal (as := [.inr (.inr (some 184)), .inl ((Int16.ofInt 400).toInt32)]) (t := []) xl_8422bd3b rfl xn_8a0f2cb7 xc_11bee548 rfl rfl xv_8b88ab9c rfl) (cm_C_mono (by decide) (htk_ok (cm_u1 w 184 0 (Int32.ofInt 0)) ((Int16.ofInt 400).toInt32))) ?_
      refine wk_aload_n xd_2594713a rfl ?_
      refine wk_iconst xd_3aea09db ?_
      refine wk_putI xf_671255ee (fun ci => wk_fitI ci) xd_66c1c8cf ?_
      have hG3_ : sv_w sg (cm_u1 (htk (cm_u1 w 184 0 (Int32.ofInt 0)) ((Int16.ofInt 400).toInt32)) 184 15 (Int32.ofInt 0)) := sv_w_u1 (htk_G (by decide) (by decide) hG1_) (by rw [xg_68f72906]; exact sv_in_top _)
      refine wk_aload_n xd_3f9e5f5a rfl ?_
      refine wk_iconst xd_c440dd4f ?_
      refine wk_putI xf_ee2f1532 (fun ci => wk_fitI ci) xd_e4ad3aeb ?_
      have hG4_ : sv_w sg (cm_u1 (cm_u1 (htk (cm_u1 w 184 0 (Int32.ofInt 0)) ((Int16.ofInt 400).toInt32)) 184 15 (Int32.ofInt 0)) 184 35 (Int32.ofInt 0)) := sv_w_u1 hG3_ (by rw [xg_e41a4c4a]; exact hb_mk (by rw [(show ((Int32.ofInt 0)).toInt = 0 from by decide)]; omega) (by rw [(show ((Int32.ofInt 0)).toInt = 0 from by decide)]; omega))
      refine wk_aload_n xd_a4b1141d rfl ?_
      obtain ⟨w3, hC3, hG3, hF3, hx3⟩ := xs_129_f2ad130c (w := (cm_u1 (cm_u1 (htk (cm_u1 w 184 0 (Int32.ofInt 0)) ((Int16.ofInt 400).toInt32)) 184 15 (Int32.ofInt 0)) 184 35 (Int32.ofInt 0))) hG4_
      refine wk_call (kd := 0) (i := 179) xd_2f2bec60 rfl (wk_cal (as := [.inr (.inr (some 184))]) (t := []) xl_013e267d rfl xn_00af7311 xc_b2cf5bb1 rfl rfl xv_e7aa8f3d rfl) (cm_C_mono (by decide) hC3) ?_
      have h2 : (w3.1 184 2).toInt = 0 := by
        rw [(hF3 184 2 (by omega)).1]
        show (Int32.ofInt 0).toInt = 0
        decide
      have hfr3 : ∀ k i, k ≠ 184 → w3.1 k i = w.1 k i := fun k i x1 => by
        rw [(hF3 k i (by omega)).1]
        unfold htk
        rw [hs_u1_ne (by omega), hs_u1_ne (by omega), hs_u1_ne (by omega), hs_u1_ne (by omega), hs_u1_ne (by omega), hs_u1_ne (by omega), hs_u1_ne (by omega)]
      have hn0 : (w3.1 184 35).toInt = ((0 : Nat) : Int) := by
        rw [(hF3 184 35 (by omega)).1]
        show (Int32.ofInt 0).toInt = 0
        decide
      have fin : ∀ x w4, jOf w3 w4 → sv_w sg w4 → (fun o : cm_O => ∃ x w', o = (some (.inl x), w') ∧ sv_w sg w' ∧ hPs w' ∧ (∀ c i, c ≠ 184 → c ≠ 188 → c ≠ 191 → c ≠ 192 → c ≠ 198 → ¬ (c = 186 ∧ 79 ≤ i ∧ i ≤ 119) → w'.1 c i = w.1 c i) ∧ (((k.toInt = 0 ∨ k.toInt = 1) ∧ (w'.1 184 2).toInt = 0) ∨ (¬ (k.toInt = 0 ∨ k.toInt = 1) ∧ w'.1 184 2 = w.1 184 2))) (some (.inl x), w4) := fun x w4 hF4 hG4 => ⟨x, w4, rfl, hG4, hPs_fr2 (fun i hi => (hF4 186 i (by omega) (by decide) (by decide) (by decide) (by decide) (by omega)).trans (hfr3 186 i (by decide))) hP, fun c i x1 x2 x3 x4 x5 x6 => (hF4 c i (by omega) x2 x3 x4 x5 x6).trans (hfr3 c i x1), .inl ⟨by omega, by rw [hF4 184 2 (by omega) (by decide) (by decide) (by decide) (by decide) (by omega)]; exact h2⟩⟩
      refine jbo_a w3 k _ fin (fun w4 n hn hn4 hrows hF4 hG4 => ?_) 2000 0 w3 (by omega) hn0 (by omega) (fun i hi => absurd hi (Nat.not_lt_zero i)) jOf_rf hG3
      refine wk_aload_n xd_c368f3f1 rfl ?_
      obtain ⟨w5, hC5, hG5, hF5, hx5⟩ := xs_147_35fa1572 (w := w4) hG4
      refine wk_call (kd := 0) (i := 363) xd_0e9cdb04 rfl (wk_cal (as := [.inr (.inr (some 184))]) (t := []) xl_8437065c rfl xn_69c62e6d xc_86e865c1 rfl rfl xv_e66d8a7a rfl) (cm_C_mono (by decide) hC5) ?_
      have hf1_ : jOf w3 w5 := fun k i x1 x2 x3 x4 x5 x6 => ((hF5 k i (by omega)).1).trans (hF4 k i x1 x2 x3 x4 x5 x6)
      refine wk_iconst xd_c0edfdd4 ?_
      refine wk_istore_n xd_9adb64d9 (by rw [xm_048ee623]; rfl) rfl ?_
      refine jbo_b w5 k _ (fun w6 z6 hP6 hG6 => ?_) 4 0 _ w5 (by omega) (by decide) (fun _ _ _ => rfl) hG5
      have hf6 : jOf w3 w6 := fun k i x1 x2 x3 x4 x5 x6 => (hP6 k i x5).trans (hf1_ k i x1 x2 x3 x4 x5 x6)
      refine wk_iconst xd_968c326a ?_
      refine wk_istore_n xd_e27b8a09 (by rw [xm_048ee623]; rfl) rfl ?_
      refine wk_iconst xd_4b0ba8b0 ?_
      refine wk_istore_n xd_a89d0f09 (by rw [xm_048ee623]; rfl) rfl ?_
      exact jbo_c w3 k n hn4 _ (fun w7 x7 z7 hF7 hG7 => jbo_e w3 k x7 z7 w7 _ fin hF7 hG7) n 0 _ _ w6 (by omega) (by decide) (by rw [hP6 184 35 (by decide), (hF5 184 35 (by omega)).1]; exact hn) (fun q hq => by have h3 := hrows q hq; have ef : (fun j => w6.1 188 j) = (fun j => w4.1 188 j) := funext fun j => (hP6 188 j (by decide)).trans (hF5 188 j (by omega)).1; rw [ef]; exact h3) hf6 hG6
    · have h11_1 := aw_ne_f (a := ((xi).toInt : Int)) (b := (0 : Int)) rfl hb_z h11_1
      refine wk_sipush xd_f2e1666b ?_
      exact wk_ireturn xd_47839c11 xr_09d975e0 rfl ⟨_, _, rfl, hG1_, hP, fun c i x1 _ _ _ _ _ => hs_u1_ne (by omega), .inr ⟨by omega, hs_u1_ne (by omega)⟩⟩
  obtain ⟨o, hC, x, w', rfl, a⟩ := h
  exact ⟨x, w', hC, a⟩

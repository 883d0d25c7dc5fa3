set_option maxRecDepth 100000 in
theorem xd_742b5892 : decode (ia_code 263) 0 = .ok (.aload_n 0, 1) := fdd_d (by decide +kernel)
set_option maxRecDepth 100000 in
theorem xd_a3c8c2bc : decode (ia_code 263) 1 = .ok (.getfield 204, 3) := fdd_d (by decide +kernel)
set_option maxRecDepth 100000 in
theorem xf_42973986 : wk_gf 263 204 184 20 0 = true := by decide +kernel
set_option maxRecDepth 100000 in
theorem xd_131403dc : decode (ia_code 263) 4 = .ok (.iload_n 1, 1) := fdd_d (by decide +kernel)
set_option maxRecDepth 100000 in
theorem xl_7388906a : ia_pl (ia_cls 263) 207 = some (1, 245, 1, 0, 1672) := by decide +kernel
set_option maxRecDepth 100000 in
theorem xn_bbe7362a : ia_na 245 = 2 := by decide +kernel
set_option maxRecDepth 100000 in
theorem xc_15bb4986 : ia_mc 245 = 0 ∧ ia_ms 245 = 0 := ⟨by decide +kernel, by decide +kernel⟩
set_option maxRecDepth 100000 in
theorem xd_d18bbac3 : decode (ia_code 263) 5 = .ok (.invokestatic 207, 3) := fdd_d (by decide +kernel)
set_option maxRecDepth 100000 in
theorem xd_fc790c66 : decode (ia_code 263) 8 = .ok (.ifCond .eq 9, 3) := fdd_d (by decide +kernel)
set_option maxRecDepth 100000 in
theorem xd_e0a49cd5 : decode (ia_code 263) 17 = .ok (.aload_n 0, 1) := fdd_d (by decide +kernel)
set_option maxRecDepth 100000 in
theorem xd_7494143e : decode (ia_code 263) 18 = .ok (.dup, 1) := fdd_d (by decide +kernel)
set_option maxRecDepth 100000 in
theorem xd_8966830c : decode (ia_code 263) 19 = .ok (.getfield 204, 3) := fdd_d (by decide +kernel)
set_option maxRecDepth 100000 in
theorem xd_8948126e : decode (ia_code 263) 22 = .ok (.iconst 1, 1) := fdd_d (by decide +kernel)
set_option maxRecDepth 100000 in
theorem xd_df856eb3 : decode (ia_code 263) 23 = .ok (.iload_n 1, 1) := fdd_d (by decide +kernel)
set_option maxRecDepth 100000 in
theorem xd_7480170f : decode (ia_code 263) 24 = .ok (.ishl, 1) := fdd_d (by decide +kernel)
set_option maxRecDepth 100000 in
theorem xd_35f67913 : decode (ia_code 263) 25 = .ok (.ior, 1) := fdd_d (by decide +kernel)
set_option maxRecDepth 100000 in
theorem xd_e8a4a1f1 : decode (ia_code 263) 26 = .ok (.putfield 204, 3) := fdd_d (by decide +kernel)
set_option maxRecDepth 100000 in
theorem xf_300619d8 : wk_pf 263 204 184 20 0 = true := by decide +kernel
set_option maxRecDepth 100000 in
theorem xd_55c904a1 : decode (ia_code 263) 29 = .ok (.aload_n 0, 1) := fdd_d (by decide +kernel)
set_option maxRecDepth 100000 in
theorem xl_6c5c40aa : ia_pl (ia_cls 263) 179 = some (1, 129, 0, 0, 1646) := by decide +kernel
set_option maxRecDepth 100000 in
theorem xd_c0a3d787 : decode (ia_code 263) 30 = .ok (.invokevirtual 179, 3) := fdd_d (by decide +kernel)
set_option maxRecDepth 100000 in
theorem xd_05139c7a : decode (ia_code 263) 33 = .ok (.iconst 1, 1) := fdd_d (by decide +kernel)
set_option maxRecDepth 100000 in
theorem xd_7ce92f54 : decode (ia_code 263) 34 = .ok (.ireturn, 1) := fdd_d (by decide +kernel)
set_option maxRecDepth 100000 in
theorem xr_b445608d : ia_ret 263 = some .boolean := by decide +kernel
set_option maxRecDepth 100000 in
theorem xd_0d6eeeaf : decode (ia_code 263) 11 = .ok (.aload_n 0, 1) := fdd_d (by decide +kernel)
set_option maxRecDepth 100000 in
theorem xd_856d7833 : decode (ia_code 263) 12 = .ok (.iconst 3, 1) := fdd_d (by decide +kernel)
set_option maxRecDepth 100000 in
theorem xl_4ca172c2 : ia_pl (ia_cls 263) 176 = some (1, 94, 0, 0, 1675) := by decide +kernel
set_option maxRecDepth 100000 in
theorem xd_691e7430 : decode (ia_code 263) 13 = .ok (.invokevirtual 176, 3) := fdd_d (by decide +kernel)
set_option maxRecDepth 100000 in
theorem xd_b67de7a9 : decode (ia_code 263) 16 = .ok (.ireturn, 1) := fdd_d (by decide +kernel)
set_option maxRecDepth 100000 in
theorem xm_05d29005 : ia_maxL 263 = 2 := by decide +kernel
set_option maxRecDepth 100000 in
theorem xd_09c3f6b8 : decode (ia_code 282) 38 = .ok (.iload_n 2, 1) := fdd_d (by decide +kernel)
set_option maxRecDepth 100000 in
theorem xd_2317d8c2 : decode (ia_code 282) 39 = .ok (.ifCond .eq 12, 3) := fdd_d (by decide +kernel)
set_option maxRecDepth 100000 in
theorem xd_02f78d17 : decode (ia_code 282) 51 = .ok (.aload_n 0, 1) := fdd_d (by decide +kernel)
set_option maxRecDepth 100000 in
theorem xd_7d4ab2ce : decode (ia_code 282) 52 = .ok (.bipush 16, 2) := fdd_d (by decide +kernel)
set_option maxRecDepth 100000 in
theorem xd_99d8c650 : decode (ia_code 282) 54 = .ok (.aload_n 0, 1) := fdd_d (by decide +kernel)
set_option maxRecDepth 100000 in
theorem xd_ec956f58 : decode (ia_code 282) 55 = .ok (.getfield 37, 3) := fdd_d (by decide +kernel)
set_option maxRecDepth 100000 in
theorem xf_bf9d949c : wk_gf 282 37 184 7 (187 + 3) = true := by decide +kernel
set_option maxRecDepth 100000 in
theorem xd_cc44612a : decode (ia_code 282) 58 = .ok (.iconst 0, 1) := fdd_d (by decide +kernel)
set_option maxRecDepth 100000 in
theorem xd_5cbd570c : decode (ia_code 282) 59 = .ok (.iaload, 1) := fdd_d (by decide +kernel)
set_option maxRecDepth 100000 in
theorem xl_0302e729 : ia_pl (ia_cls 282) 201 = some (1, 274, 0, 0, 1710) := by decide +kernel
set_option maxRecDepth 100000 in
theorem xd_2a90f8f9 : decode (ia_code 282) 60 = .ok (.invokevirtual 201, 3) := fdd_d (by decide +kernel)
set_option maxRecDepth 100000 in
theorem xd_90517844 : decode (ia_code 282) 63 = .ok (.ifCond .ne 5, 3) := fdd_d (by decide +kernel)
set_option maxRecDepth 100000 in
theorem xd_e1e00dc0 : decode (ia_code 282) 68 = .ok (.iload_n 2, 1) := fdd_d (by decide +kernel)
set_option maxRecDepth 100000 in
theorem xd_5a506719 : decode (ia_code 282) 69 = .ok (.aload_n 0, 1) := fdd_d (by decide +kernel)
set_option maxRecDepth 100000 in
theorem xd_4d7f4916 : decode (ia_code 282) 70 = .ok (.getfield 186, 3) := fdd_d (by decide +kernel)
set_option maxRecDepth 100000 in
theorem xf_fcf1580f : wk_gf 282 186 184 18 0 = true := by decide +kernel
set_option maxRecDepth 100000 in
theorem xl_51981a2a : ia_pl (ia_cls 282) 207 = some (1, 245, 1, 0, 1672) := by decide +kernel
set_option maxRecDepth 100000 in
theorem xd_e3eae788 : decode (ia_code 282) 73 = .ok (.invokestatic 207, 3) := fdd_d (by decide +kernel)
set_option maxRecDepth 100000 in
theorem xd_385f1ac6 : decode (ia_code 282) 76 = .ok (.ifCond .eq 9, 3) := fdd_d (by decide +kernel)
set_option maxRecDepth 100000 in
theorem xd_18466b4f : decode (ia_code 282) 85 = .ok (.iload_n 2, 1) := fdd_d (by decide +kernel)
set_option maxRecDepth 100000 in
theorem xd_a1003c7b : decode (ia_code 282) 86 = .ok (.iconst 1, 1) := fdd_d (by decide +kernel)
set_option maxRecDepth 100000 in
theorem xd_d51338ab : decode (ia_code 282) 87 = .ok (.aload_n 0, 1) := fdd_d (by decide +kernel)
set_option maxRecDepth 100000 in
theorem xd_0801f4a6 : decode (ia_code 282) 88 = .ok (.getfield 186, 3) := fdd_d (by decide +kernel)
set_option maxRecDepth 100000 in
theorem xd_c0d6b858 : decode (ia_code 282) 91 = .ok (.ishl, 1) := fdd_d (by decide +kernel)
set_option maxRecDepth 100000 in
theorem xd_bcdb8928 : decode (ia_code 282) 92 = .ok (.ior, 1) := fdd_d (by decide +kernel)
set_option maxRecDepth 100000 in
theorem xd_57ed3c3f : decode (ia_code 282) 93 = .ok (.istore_n 2, 1) := fdd_d (by decide +kernel)
set_option maxRecDepth 100000 in
theorem xm_75bfe853 : ia_maxL 282 = 3 := by decide +kernel
set_option maxRecDepth 100000 in
theorem xd_22d364b1 : decode (ia_code 282) 94 = .ok (.aload_n 0, 1) := fdd_d (by decide +kernel)
set_option maxRecDepth 100000 in
theorem xl_4e4ccaea : ia_pl (ia_cls 282) 179 = some (1, 129, 0, 0, 1646) := by decide +kernel
set_option maxRecDepth 100000 in
theorem xd_58f4f449 : decode (ia_code 282) 95 = .ok (.invokevirtual 179, 3) := fdd_d (by decide +kernel)
set_option maxRecDepth 100000 in
theorem xd_727ba69a : decode (ia_code 282) 98 = .ok (.goto (-60), 3) := fdd_d (by decide +kernel)
set_option maxRecDepth 100000 in
theorem xd_db75023e : decode (ia_code 282) 79 = .ok (.aload_n 0, 1) := fdd_d (by decide +kernel)
set_option maxRecDepth 100000 in
theorem xd_a931359b : decode (ia_code 282) 80 = .ok (.iconst 3, 1) := fdd_d (by decide +kernel)
set_option maxRecDepth 100000 in
theorem xl_5e3d8b74 : ia_pl (ia_cls 282) 176 = some (1, 94, 0, 0, 1675) := by decide +kernel
set_option maxRecDepth 100000 in
theorem xd_10e1c576 : decode (ia_code 282) 81 = .ok (.invokevirtual 176, 3) := fdd_d (by decide +kernel)
set_option maxRecDepth 100000 in
theorem xd_33aec417 : decode (ia_code 282) 84 = .ok (.ireturn, 1) := fdd_d (by decide +kernel)
set_option maxRecDepth 100000 in
theorem xr_2aceb947 : ia_ret 282 = some .boolean := by decide +kernel
set_option maxRecDepth 100000 in
theorem xd_71132497 : decode (ia_code 282) 66 = .ok (.iconst 0, 1) := fdd_d (by decide +kernel)
set_option maxRecDepth 100000 in
theorem xd_83023a74 : decode (ia_code 282) 67 = .ok (.ireturn, 1) := fdd_d (by decide +kernel)
set_option maxRecDepth 100000 in
theorem xd_f537d10d : decode (ia_code 282) 42 = .ok (.aload_n 0, 1) := fdd_d (by decide +kernel)
set_option maxRecDepth 100000 in
theorem xd_7edde8fa : decode (ia_code 282) 43 = .ok (.bipush 59, 2) := fdd_d (by decide +kernel)
set_option maxRecDepth 100000 in
theorem xl_1558f9b6 : ia_pl (ia_cls 282) 173 = some (1, 118, 0, 0, 1706) := by decide +kernel
set_option maxRecDepth 100000 in
theorem xd_7100c73c : decode (ia_code 282) 45 = .ok (.invokevirtual 173, 3) := fdd_d (by decide +kernel)
set_option maxRecDepth 100000 in
theorem xd_95c7fa7a : decode (ia_code 282) 48 = .ok (.ifCond .ne 53, 3) := fdd_d (by decide +kernel)
set_option maxRecDepth 100000 in
theorem xd_eded7548 : decode (ia_code 282) 0 = .ok (.aload_n 0, 1) := fdd_d (by decide +kernel)
set_option maxRecDepth 100000 in
theorem xd_3ce66102 : decode (ia_code 282) 1 = .ok (.getfield 37, 3) := fdd_d (by decide +kernel)
set_option maxRecDepth 100000 in
theorem xd_8ba696c9 : decode (ia_code 282) 4 = .ok (.iconst 2, 1) := fdd_d (by decide +kernel)
set_option maxRecDepth 100000 in
theorem xd_62d45112 : decode (ia_code 282) 5 = .ok (.iaload, 1) := fdd_d (by decide +kernel)
set_option maxRecDepth 100000 in
theorem xd_55c65761 : decode (ia_code 282) 6 = .ok (.istore_n 1, 1) := fdd_d (by decide +kernel)
set_option maxRecDepth 100000 in
theorem xd_fc37173b : decode (ia_code 282) 7 = .ok (.iload_n 1, 1) := fdd_d (by decide +kernel)
set_option maxRecDepth 100000 in
theorem xd_7b9ada33 : decode (ia_code 282) 8 = .ok (.bipush 6, 2) := fdd_d (by decide +kernel)
set_option maxRecDepth 100000 in
theorem xd_99e021fa : decode (ia_code 282) 10 = .ok (.if_icmp .ne 9, 3) := fdd_d (by decide +kernel)
set_option maxRecDepth 100000 in
theorem xd_6b48506e : decode (ia_code 282) 19 = .ok (.aload_n 0, 1) := fdd_d (by decide +kernel)
set_option maxRecDepth 100000 in
theorem xd_47878337 : decode (ia_code 282) 20 = .ok (.invokevirtual 179, 3) := fdd_d (by decide +kernel)
set_option maxRecDepth 100000 in
theorem xd_de796989 : decode (ia_code 282) 23 = .ok (.aload_n 0, 1) := fdd_d (by decide +kernel)
set_option maxRecDepth 100000 in
theorem xd_270c856d : decode (ia_code 282) 24 = .ok (.bipush 26, 2) := fdd_d (by decide +kernel)
set_option maxRecDepth 100000 in
theorem xd_2235d813 : decode (ia_code 282) 26 = .ok (.iload_n 1, 1) := fdd_d (by decide +kernel)
set_option maxRecDepth 100000 in
theorem xd_d3ae99ac : decode (ia_code 282) 27 = .ok (.iadd, 1) := fdd_d (by decide +kernel)
set_option maxRecDepth 100000 in
theorem xl_e783bbfc : ia_pl (ia_cls 282) 220 = some (1, 256, 0, 0, 1690) := by decide +kernel
set_option maxRecDepth 100000 in
theorem xn_371b9f5f : ia_na 256 = 2 := by decide +kernel
set_option maxRecDepth 100000 in
theorem xc_6e87bce9 : ia_mc 256 = 0 ∧ ia_ms 256 = 0 := ⟨by decide +kernel, by decide +kernel⟩
set_option maxRecDepth 100000 in
theorem xv_7fce75a6 : cm_rcv 256 [.inr (.inr (some 184))] = true := by decide +kernel
set_option maxRecDepth 100000 in
theorem xd_5c8d2ce0 : decode (ia_code 282) 28 = .ok (.invokevirtual 220, 3) := fdd_d (by decide +kernel)
set_option maxRecDepth 100000 in
theorem xd_8ad6432f : decode (ia_code 282) 31 = .ok (.ifCond .ne 5, 3) := fdd_d (by decide +kernel)
set_option maxRecDepth 100000 in
theorem xd_ea3c6fd0 : decode (ia_code 282) 36 = .ok (.iconst 0, 1) := fdd_d (by decide +kernel)
set_option maxRecDepth 100000 in
theorem xd_8286178a : decode (ia_code 282) 37 = .ok (.istore_n 2, 1) := fdd_d (by decide +kernel)
set_option maxRecDepth 100000 in
theorem xd_6b770f2e : decode (ia_code 282) 101 = .ok (.aload_n 0, 1) := fdd_d (by decide +kernel)
set_option maxRecDepth 100000 in
theorem xd_2ff795c6 : decode (ia_code 282) 102 = .ok (.getfield 37, 3) := fdd_d (by decide +kernel)
set_option maxRecDepth 100000 in
theorem xd_e75b8622 : decode (ia_code 282) 105 = .ok (.bipush 33, 2) := fdd_d (by decide +kernel)
set_option maxRecDepth 100000 in
theorem xd_e1de8789 : decode (ia_code 282) 107 = .ok (.iload_n 1, 1) := fdd_d (by decide +kernel)
set_option maxRecDepth 100000 in
theorem xd_f83005ec : decode (ia_code 282) 108 = .ok (.iadd, 1) := fdd_d (by decide +kernel)
set_option maxRecDepth 100000 in
theorem xd_4b0dcc05 : decode (ia_code 282) 109 = .ok (.iload_n 2, 1) := fdd_d (by decide +kernel)
set_option maxRecDepth 100000 in
theorem xd_f09dc1fd : decode (ia_code 282) 110 = .ok (.iastore, 1) := fdd_d (by decide +kernel)
set_option maxRecDepth 100000 in
theorem xd_ea526a09 : decode (ia_code 282) 111 = .ok (.aload_n 0, 1) := fdd_d (by decide +kernel)
set_option maxRecDepth 100000 in
theorem xd_c8ea3351 : decode (ia_code 282) 112 = .ok (.getfield 37, 3) := fdd_d (by decide +kernel)
set_option maxRecDepth 100000 in
theorem xd_597dcecd : decode (ia_code 282) 115 = .ok (.iconst 2, 1) := fdd_d (by decide +kernel)
set_option maxRecDepth 100000 in
theorem xd_117f40d7 : decode (ia_code 282) 116 = .ok (.dup2, 1) := fdd_d (by decide +kernel)
set_option maxRecDepth 100000 in
theorem xd_c627d278 : decode (ia_code 282) 117 = .ok (.iaload, 1) := fdd_d (by decide +kernel)
set_option maxRecDepth 100000 in
theorem xd_ec1765dd : decode (ia_code 282) 118 = .ok (.iconst 1, 1) := fdd_d (by decide +kernel)
set_option maxRecDepth 100000 in
theorem xd_c0803355 : decode (ia_code 282) 119 = .ok (.iadd, 1) := fdd_d (by decide +kernel)
set_option maxRecDepth 100000 in
theorem xd_c9e56cbd : decode (ia_code 282) 120 = .ok (.iastore, 1) := fdd_d (by decide +kernel)
set_option maxRecDepth 100000 in
theorem xd_34991e20 : decode (ia_code 282) 121 = .ok (.iconst 1, 1) := fdd_d (by decide +kernel)
set_option maxRecDepth 100000 in
theorem xd_8a1c9e41 : decode (ia_code 282) 122 = .ok (.ireturn, 1) := fdd_d (by decide +kernel)
set_option maxRecDepth 100000 in
theorem xd_c46ca650 : decode (ia_code 282) 34 = .ok (.iconst 0, 1) := fdd_d (by decide +kernel)
set_option maxRecDepth 100000 in
theorem xd_2c4fccc9 : decode (ia_code 282) 35 = .ok (.ireturn, 1) := fdd_d (by decide +kernel)
set_option maxRecDepth 100000 in
theorem xd_8667c0a1 : decode (ia_code 282) 13 = .ok (.aload_n 0, 1) := fdd_d (by decide +kernel)
set_option maxRecDepth 100000 in
theorem xd_dc7ad379 : decode (ia_code 282) 14 = .ok (.iconst 4, 1) := fdd_d (by decide +kernel)
set_option maxRecDepth 100000 in
theorem xd_39b057cc : decode (ia_code 282) 15 = .ok (.invokevirtual 176, 3) := fdd_d (by decide +kernel)
set_option maxRecDepth 100000 in
theorem xd_aace8b1a : decode (ia_code 282) 18 = .ok (.ireturn, 1) := fdd_d (by decide +kernel)
/-! ## the reference's lines (wip/p4/gen9vo.py) -/
def cr_P (T : Nat → Int) (n m : Nat) (r : ps_R) (x : Int32) (w : cm_W) : Prop := match r with
  | .inl e => x.toInt = 0 ∧ cr_B w e.1 e.2
  | .inr s => x.toInt = 1 ∧ ∃ f g, cr_M w T n m s.2.2.2.2 f g s.2.2.1 s.2.2.2.1 ∧ ps_Q tx_F f g s.1 s.2.1
theorem cr_P_e {T : Nat → Int} {n m k q : Nat} {r : ps_R} {x : Int32} {w : cm_W} (hr : r = .inl (k, q)) (hx : x.toInt = 0) (hB : cr_B w k q) : cr_P T n m r x w := by
  rw [hr]
  exact ⟨hx, hB⟩
theorem cr_P_n {T : Nat → Int} {n m p : Nat} {h : Nat → Int} {nm : Nat → Nat} {a b : Int} {f : Nat → Int} {g : Nat → Int64} {r : ps_R} {x : Int32} {w : cm_W} (hr : r = .inr (h, nm, a, b, p)) (hx : x.toInt = 1) (hM : cr_M w T n m p f g a b) (hQ : ps_Q tx_F f g h nm) : cr_P T n m r x w := by
  rw [hr]
  exact ⟨hx, f, g, hM, hQ⟩
theorem cr_P_bit {T : Nat → Int} {n m : Nat} {r : ps_R} {x : Int32} {w : cm_W} (h : cr_P T n m r x w) : ia_nar .boolean (ia_E x) = true := by
  unfold cr_P at h
  split at h
  · exact aw_bit (by have := h.1; omega) (by have := h.1; omega)
  · exact aw_bit (by have := h.1; omega) (by have := h.1; omega)
/-- once-bits: what is told, what is told then -/
theorem cr_on (a b : Int) (ha : a = 0 ∨ a = 1) (hb : b = 0 ∨ b = 1) : ((ps_bt (Int32.ofInt (a + 2 * b)) (Int32.ofInt 0)).toInt = a ∧ (ps_bt (Int32.ofInt (a + 2 * b)) (Int32.ofInt 1)).toInt = b) ∧ (a = 0 → ps_or (Int32.ofInt (a + 2 * b)) (Int32.ofInt 0) = Int32.ofInt (1 + 2 * b)) ∧ (b = 0 → ps_or (Int32.ofInt (a + 2 * b)) (Int32.ofInt 1) = Int32.ofInt (a + 2 * 1)) := by
  rcases ha with rfl | rfl
  · rcases hb with rfl | rfl
    · decide
    · decide
  · rcases hb with rfl | rfl
    · decide
    · decide
theorem cr_once0 {w : cm_W} {T : Nat → Int} {n m p : Nat} {f : Nat → Int} {g : Nat → Int64} {a0 b0 : Int} (hM : cr_M w T n m p f g a0 b0) (hs : 1 ≤ (tx_tk T n m p).1 ∧ (tx_tk T n m p).1 ≤ 3)  : ∃ x w', cm_C 3 263 [.inr (.inr (some 184)), .inl (Int32.ofInt 0)] w (some (.inl x), w') ∧ cr_V w w' ∧ ((a0 = 0 ∧ x.toInt = 1 ∧ cr_M w' T n m (tx_tk T n m p).2.2.1 f g 1 b0) ∨ (¬ a0 = 0 ∧ x.toInt = 0 ∧ cr_B w' 3 (tx_tk T n m p).2.1)) := by
  have hon := cr_on a0 b0 hM.2.2.2.2.2.1 hM.2.2.2.2.2.2
  have h01 := hM.2.2.2.2.2
  have h : ∃ o, cm_C (2 + 1) 263 [.inr (.inr (some 184)), .inl (Int32.ofInt 0)] w o ∧ (fun o : cm_O => ∃ x w', o = (some (.inl x), w') ∧ cr_V w w' ∧ ((a0 = 0 ∧ x.toInt = 1 ∧ cr_M w' T n m (tx_tk T n m p).2.2.1 f g 1 b0) ∨ (¬ a0 = 0 ∧ x.toInt = 0 ∧ cr_B w' 3 (tx_tk T n m p).2.1))) o := by
    refine wk_entry (by rw [xm_05d29005]; exact Nat.le_of_ble_eq_true rfl) ?_
    rw [show cm_ent 263 [.inr (.inr (some 184)), .inl (Int32.ofInt 0)] = [some (.inr (.inr (some 184))), some (.inl (Int32.ofInt 0))] from by unfold cm_ent; rw [xm_05d29005]; rfl]
    refine wk_aload_n xd_742b5892 rfl ?_
    refine wk_getI xf_42973986 xd_a3c8c2bc ?_
    refine wk_iload_n xd_131403dc rfl ?_
    obtain ⟨xb, hCb, hxb⟩ := cr_bit (w := w) (s := w.1 184 20) (i := (Int32.ofInt 0))
    rw [hM.2.2.2.2.1] at hxb
    refine wk_call (kd := 1) (i := 207) xd_d18bbac3 rfl (wk_cal (as := [.inl (w.1 184 20), .inl (Int32.ofInt 0)]) (t := []) xl_7388906a rfl xn_bbe7362a xc_15bb4986 rfl rfl rfl rfl) (cm_C_mono (by omega) hCb) ?_
    refine wk_if xd_fc790c66 (t := 17) rfl (fun h8_0 => ?_) (fun h8_0 => ?_)
    · have h8_0 := aw_eq_t (a := ((xb).toInt : Int)) (b := (0 : Int)) rfl hb_z h8_0
      refine wk_aload_n xd_e0a49cd5 rfl ?_
      refine wk_dup_r xd_7494143e ?_
      refine wk_getI xf_42973986 xd_8966830c ?_
      refine wk_iconst xd_8948126e ?_
      refine wk_iload_n xd_df856eb3 rfl ?_
      refine aw_ishl xd_7480170f ?_
      refine aw_ior xd_35f67913 ?_
      refine wk_putI xf_300619d8 (fun ci => wk_fitI ci) xd_e8a4a1f1 ?_
      have hV2_ := cr_V_u (i := 20) (x := ((w.1 184 20) ||| ((Int32.ofInt 1) <<< ((Int32.ofInt 0) &&& 31)))) (cr_V_rf w) (by omega)
      have hMo : cr_M (cm_u1 w 184 20 ((w.1 184 20) ||| ((Int32.ofInt 1) <<< ((Int32.ofInt 0) &&& 31)))) T n m p f g 1 b0 := by
        obtain ⟨h1, h2, h3, h4, h5, h6, h7⟩ := hM
        refine ⟨rm_L_fr (w := w) (fun i => hs_u1_ne (by omega)) (fun i _ => hs_u1_ne (by omega)) rfl (fun _ => rfl) h1, by rw [hs_u1_ne (by omega)]; exact h2, h3, h4, ?_, .inr rfl, h7⟩
        rw [hs_u1_self, h5]
        exact hon.2.1 (by omega)
      refine wk_aload_n xd_55c904a1 rfl ?_
      obtain ⟨wn3_, hCn3_, hVn3_, hMn3_⟩ := cr_next hMo hs
      have hVn3_a := cr_V_tr hV2_ hVn3_
      refine wk_call (kd := 0) (i := 179) xd_c0a3d787 rfl (wk_cal (as := [.inr (.inr (some 184))]) (t := []) xl_6c5c40aa rfl xn_00af7311 xc_b2cf5bb1 rfl rfl xv_e7aa8f3d rfl) (cm_C_mono (by omega) hCn3_) ?_
      refine wk_iconst xd_05139c7a ?_
      exact wk_ireturn xd_7ce92f54 xr_b445608d wk_z1 ⟨_, _, rfl, hVn3_a, .inl ⟨by omega, by decide, hMn3_⟩⟩
    · have h8_0 := aw_eq_f (a := ((xb).toInt : Int)) (b := (0 : Int)) rfl hb_z h8_0
      refine wk_aload_n xd_0d6eeeaf rfl ?_
      refine wk_iconst xd_856d7833 ?_
      obtain ⟨wr4_, hCr4_, hVr4_, hBr4_⟩ := cr_bad (k := (Int32.ofInt 3)) (c := 3) hM (by decide)
      have hVr4_a := cr_V_tr (cr_V_rf w) hVr4_
      refine wk_call (kd := 0) (i := 176) xd_691e7430 rfl (wk_cal (as := [.inr (.inr (some 184)), .inl (Int32.ofInt 3)]) (t := []) xl_4ca172c2 rfl xn_f63023b8 xc_1907b494 rfl rfl xv_a1095a1b rfl) (cm_C_mono (by omega) hCr4_) ?_
      exact wk_ireturn xd_b67de7a9 xr_b445608d wk_z0 ⟨_, _, rfl, hVr4_a, .inr ⟨by omega, by decide, hBr4_⟩⟩
  obtain ⟨o, hC, x, w', rfl, a⟩ := h
  exact ⟨x, w', hC, a⟩
theorem cr_once1 {w : cm_W} {T : Nat → Int} {n m p : Nat} {f : Nat → Int} {g : Nat → Int64} {a0 b0 : Int} (hM : cr_M w T n m p f g a0 b0) (hs : 1 ≤ (tx_tk T n m p).1 ∧ (tx_tk T n m p).1 ≤ 3)  : ∃ x w', cm_C 3 263 [.inr (.inr (some 184)), .inl (Int32.ofInt 1)] w (some (.inl x), w') ∧ cr_V w w' ∧ ((b0 = 0 ∧ x.toInt = 1 ∧ cr_M w' T n m (tx_tk T n m p).2.2.1 f g a0 1) ∨ (¬ b0 = 0 ∧ x.toInt = 0 ∧ cr_B w' 3 (tx_tk T n m p).2.1)) := by
  have hon := cr_on a0 b0 hM.2.2.2.2.2.1 hM.2.2.2.2.2.2
  have h01 := hM.2.2.2.2.2
  have h : ∃ o, cm_C (2 + 1) 263 [.inr (.inr (some 184)), .inl (Int32.ofInt 1)] w o ∧ (fun o : cm_O => ∃ x w', o = (some (.inl x), w') ∧ cr_V w w' ∧ ((b0 = 0 ∧ x.toInt = 1 ∧ cr_M w' T n m (tx_tk T n m p).2.2.1 f g a0 1) ∨ (¬ b0 = 0 ∧ x.toInt = 0 ∧ cr_B w' 3 (tx_tk T n m p).2.1))) o := by
    refine wk_entry (by rw [xm_05d29005]; exact Nat.le_of_ble_eq_true rfl) ?_
    rw [show cm_ent 263 [.inr (.inr (some 184)), .inl (Int32.ofInt 1)] = [some (.inr (.inr (some 184))), some (.inl (Int32.ofInt 1))] from by unfold cm_ent; rw [xm_05d29005]; rfl]
    refine wk_aload_n xd_742b5892 rfl ?_
    refine wk_getI xf_42973986 xd_a3c8c2bc ?_
    refine wk_iload_n xd_131403dc rfl ?_
    obtain ⟨xb, hCb, hxb⟩ := cr_bit (w := w) (s := w.1 184 20) (i := (Int32.ofInt 1))
    rw [hM.2.2.2.2.1] at hxb
    refine wk_call (kd := 1) (i := 207) xd_d18bbac3 rfl (wk_cal (as := [.inl (w.1 184 20), .inl (Int32.ofInt 1)]) (t := []) xl_7388906a rfl xn_bbe7362a xc_15bb4986 rfl rfl rfl rfl) (cm_C_mono (by omega) hCb) ?_
    refine wk_if xd_fc790c66 (t := 17) rfl (fun h8_0 => ?_) (fun h8_0 => ?_)
    · have h8_0 := aw_eq_t (a := ((xb).toInt : Int)) (b := (0 : Int)) rfl hb_z h8_0
      refine wk_aload_n xd_e0a49cd5 rfl ?_
      refine wk_dup_r xd_7494143e ?_
      refine wk_getI xf_42973986 xd_8966830c ?_
      refine wk_iconst xd_8948126e ?_
      refine wk_iload_n xd_df856eb3 rfl ?_
      refine aw_ishl xd_7480170f ?_
      refine aw_ior xd_35f67913 ?_
      refine wk_putI xf_300619d8 (fun ci => wk_fitI ci) xd_e8a4a1f1 ?_
      have hV2_ := cr_V_u (i := 20) (x := ((w.1 184 20) ||| ((Int32.ofInt 1) <<< ((Int32.ofInt 1) &&& 31)))) (cr_V_rf w) (by omega)
      have hMo : cr_M (cm_u1 w 184 20 ((w.1 184 20) ||| ((Int32.ofInt 1) <<< ((Int32.ofInt 1) &&& 31)))) T n m p f g a0 1 := by
        obtain ⟨h1, h2, h3, h4, h5, h6, h7⟩ := hM
        refine ⟨rm_L_fr (w := w) (fun i => hs_u1_ne (by omega)) (fun i _ => hs_u1_ne (by omega)) rfl (fun _ => rfl) h1, by rw [hs_u1_ne (by omega)]; exact h2, h3, h4, ?_, h6, .inr rfl⟩
        rw [hs_u1_self, h5]
        exact hon.2.2 (by omega)
      refine wk_aload_n xd_55c904a1 rfl ?_
      obtain ⟨wn3_, hCn3_, hVn3_, hMn3_⟩ := cr_next hMo hs
      have hVn3_a := cr_V_tr hV2_ hVn3_
      refine wk_call (kd := 0) (i := 179) xd_c0a3d787 rfl (wk_cal (as := [.inr (.inr (some 184))]) (t := []) xl_6c5c40aa rfl xn_00af7311 xc_b2cf5bb1 rfl rfl xv_e7aa8f3d rfl) (cm_C_mono (by omega) hCn3_) ?_
      refine wk_iconst xd_05139c7a ?_
      exact wk_ireturn xd_7ce92f54 xr_b445608d wk_z1 ⟨_, _, rfl, hVn3_a, .inl ⟨by omega, by decide, hMn3_⟩⟩
    · have h8_0 := aw_eq_f (a := ((xb).toInt : Int)) (b := (0 : Int)) rfl hb_z h8_0
      refine wk_aload_n xd_0d6eeeaf rfl ?_
      refine wk_iconst xd_856d7833 ?_
      obtain ⟨wr4_, hCr4_, hVr4_, hBr4_⟩ := cr_bad (k := (Int32.ofInt 3)) (c := 3) hM (by decide)
      have hVr4_a := cr_V_tr (cr_V_rf w) hVr4_
      refine wk_call (kd := 0) (i := 176) xd_691e7430 rfl (wk_cal (as := [.inr (.inr (some 184)), .inl (Int32.ofInt 3)]) (t := []) xl_4ca172c2 rfl xn_f63023b8 xc_1907b494 rfl rfl xv_a1095a1b rfl) (cm_C_mono (by omega) hCr4_) ?_
      exact wk_ireturn xd_b67de7a9 xr_b445608d wk_z0 ⟨_, _, rfl, hVr4_a, .inr ⟨by omega, by decide, hBr4_⟩⟩
  obtain ⟨o, hC, x, w', rfl, a⟩ := h
  exact ⟨x, w', hC, a⟩
theorem cr_mlp {w0 : cm_W} {T : Nat → Int} {n m p0 : Nat} {f : Nat → Int} {g : Nat → Int64} {a0 b0 : Int} {h : Nat → Int} {nm : Nat → Nat} {vk : Int32} (hQ : ps_Q tx_F f g h nm) (hvk : vk.toInt = ((h 2).toNat : Int)) (Q : cm_O → Prop)
    (hk : ∀ (w : cm_W) (s : Int32) (p : Nat), ps_mt T n m nm (h 0).toNat 7 0 p0 = .inr (s, p) → cr_V w0 w → cr_M w T n m p f g a0 b0 → 0 ≤ s.toInt → s.toInt ≤ 63 → cm_X (cm_C 4) 282 101 [some (.inr (.inr (some 184))), some (.inl vk), some (.inl s)] [] w Q)
    (hb : ∀ (w : cm_W) (k q : Nat), ps_mt T n m nm (h 0).toNat 7 0 p0 = .inl (k, q) → cr_V w0 w → cr_B w k q → Q (some (.inl (Int32.ofInt 0)), w)) : ∀ (d i : Nat) (s : Int32) (w : cm_W) {p : Nat}, d + i = 7 → ps_pc s = i → 0 ≤ s.toInt → s.toInt ≤ 63 → ps_mt T n m nm (h 0).toNat 7 0 p0 = ps_mt T n m nm (h 0).toNat d s p → cr_V w0 w → cr_M w T n m p f g a0 b0 → cm_X (cm_C 4) 282 38 [some (.inr (.inr (some 184))), some (.inl vk), some (.inl s)] [] w Q := by
  have hbd := hQ.2.2
  unfold ps_bd at hbd
  intro d
  induction d with
  | zero =>
    intro i s w p hi hpc hs0 hs1 hE hV hM
    have hst := ps_set (x := Int32.ofNat 0) hs0 hs1 (by decide) (by decide)
    exfalso
    omega
  | succ d ih =>
    intro i s w p hi hpc hs0 hs1 hE hV hM
    have hcn := cr_c hM hQ
    refine wk_iload_n xd_09c3f6b8 rfl ?_
    refine wk_if xd_2317d8c2 (t := 51) rfl (fun h39_0 => ?_) (fun h39_0 => ?_)
    · have h39_0 := aw_eq_t (a := ((s).toInt : Int)) (b := (0 : Int)) rfl hb_z h39_0
      have hgo : ¬ (s ≠ 0 ∧ ps_sg T n m p) := fun z => z.1 (Int32.toInt_inj.mp (by rw [show (0 : Int32).toInt = 0 from rfl]; omega))
      refine wk_aload_n xd_02f78d17 rfl ?_
      refine wk_bipush xd_7d4ab2ce ?_
      refine wk_aload_n xd_99d8c650 rfl ?_
      refine wk_getR xf_bf9d949c xd_ec956f58 ?_
      refine wk_iconst xd_cc44612a ?_
      refine aw_iaload (i := 0) xf_9cb75a54 (show ((Int32.ofInt 0)).toInt = 0 from by decide) (by omega) (by omega) xd_5cbd570c ?_
      obtain ⟨xl, wl, hCl, hVl, hRl⟩ := cr_look hM hQ (show (((Int8.ofInt 16).toInt32)).toInt = 16 from by decide) (show ((w.1 187 0)).toInt = (((h 0).toNat : Int) : Int) from hcn.1)
      have hVla := cr_V_tr hV hVl
      refine wk_call (kd := 0) (i := 201) xd_2a90f8f9 rfl (wk_cal (as := [.inr (.inr (some 184)), .inl ((Int8.ofInt 16).toInt32), .inl (w.1 187 0)]) (t := []) xl_0302e729 rfl xn_77145da2 xc_6d225164 rfl rfl xv_5b2ff62c rfl) (cm_C_mono (by omega) hCl) ?_
      rcases hRl with ⟨u, eu, hxl, hgl, hMl⟩ | ⟨ku, qu, eu, hxl, hBl⟩
      · have hu := ps_look_b eu
        have hxi := ps_ofInt hgl
        have hst := ps_set hs0 hs1 (show 0 ≤ (wl.1 184 18).toInt by omega) (show (wl.1 184 18).toInt < 6 by omega)
        refine wk_if xd_90517844 (t := 68) rfl (fun _ => ?_) (fun h => absurd (aw_ne_f hxl hb_z h) (by omega))
        refine wk_iload_n xd_e1e00dc0 rfl ?_
        refine wk_aload_n xd_5a506719 rfl ?_
        refine wk_getI xf_fcf1580f xd_4d7f4916 ?_
        obtain ⟨xb, hCb, hxb⟩ := cr_bit (w := wl) (s := s) (i := wl.1 184 18)
        refine wk_call (kd := 1) (i := 207) xd_e3eae788 rfl (wk_cal (as := [.inl s, .inl (wl.1 184 18)]) (t := []) xl_51981a2a rfl xn_bbe7362a xc_15bb4986 rfl rfl rfl rfl) (cm_C_mono (by omega) hCb) ?_
        refine wk_if xd_385f1ac6 (t := 85) rfl (fun h76_2 => ?_) (fun h76_2 => ?_)
        · have h76_2 := aw_eq_t (a := ((xb).toInt : Int)) (b := (0 : Int)) rfl hb_z h76_2
          have hbt : ps_bt s (Int32.ofInt u) = 0 := by
            rw [← hxi]
            rcases hst.2.2.2.2.2 with z | z
            · exact z
            · exfalso; omega
          refine wk_iload_n xd_18466b4f rfl ?_
          refine wk_iconst xd_a1003c7b ?_
          refine wk_aload_n xd_d51338ab rfl ?_
          refine wk_getI xf_fcf1580f xd_0801f4a6 ?_
          refine aw_ishl xd_c0d6b858 ?_
          refine aw_ior xd_bcdb8928 ?_
          refine wk_istore_n xd_57ed3c3f (by rw [xm_75bfe853]; rfl) rfl ?_
          refine wk_aload_n xd_22d364b1 rfl ?_
          obtain ⟨wn4_, hCn4_, hVn4_, hMn4_⟩ := cr_next hMl hu.2.2
          have hVn4_a := cr_V_tr hVla hVn4_
          refine wk_call (kd := 0) (i := 179) xd_58f4f449 rfl (wk_cal (as := [.inr (.inr (some 184))]) (t := []) xl_4e4ccaea rfl xn_00af7311 xc_b2cf5bb1 rfl rfl xv_e7aa8f3d rfl) (cm_C_mono (by omega) hCn4_) ?_
          refine wk_goto xd_727ba69a (t := 38) rfl ?_
          have e9 : (s ||| ((Int32.ofInt 1) <<< ((wl.1 184 18) &&& 31))) = ps_or s (Int32.ofInt u) := by rw [← hxi]; rfl
          have hb0 : ps_bt s (wl.1 184 18) = 0 := by rw [hxi]; exact hbt
          rw [e9]
          refine ih (i + 1) _ _ (by omega) ?_ ?_ ?_ (hE.trans (ps_mt_go hgo eu hbt)) hVn4_a hMn4_
          · rw [← hxi, hst.2.1 hb0]; omega
          · rw [← hxi]; exact hst.2.2.1
          · rw [← hxi]; exact hst.2.2.2.1
        · have h76_2 := aw_eq_f (a := ((xb).toInt : Int)) (b := (0 : Int)) rfl hb_z h76_2
          have hbt : ¬ ps_bt s (Int32.ofInt u) = 0 := by
            rw [← hxi]
            intro z
            rw [z] at hxb
            have z0 : (0 : Int32).toInt = 0 := rfl
            omega
          refine wk_aload_n xd_db75023e rfl ?_
          refine wk_iconst xd_a931359b ?_
          obtain ⟨wr5_, hCr5_, hVr5_, hBr5_⟩ := cr_bad (k := (Int32.ofInt 3)) (c := 3) hMl (by decide)
          have hVr5_a := cr_V_tr hVla hVr5_
          refine wk_call (kd := 0) (i := 176) xd_10e1c576 rfl (wk_cal (as := [.inr (.inr (some 184)), .inl (Int32.ofInt 3)]) (t := []) xl_5e3d8b74 rfl xn_f63023b8 xc_1907b494 rfl rfl xv_a1095a1b rfl) (cm_C_mono (by omega) hCr5_) ?_
          exact wk_ireturn xd_33aec417 xr_2aceb947 wk_z0 (hb _ _ _ (hE.trans (ps_mt_e2 hgo eu hbt)) hVr5_a hBr5_)
      · skip
        refine wk_if xd_90517844 (t := 68) rfl (fun h => absurd (aw_ne_t hxl hb_z h) (by omega)) (fun _ => ?_)
        refine wk_iconst xd_71132497 ?_
        exact wk_ireturn xd_83023a74 xr_2aceb947 wk_z0 (hb _ _ _ (hE.trans (ps_mt_e1 hgo eu)) hVla hBl)
    · have h39_0 := aw_eq_f (a := ((s).toInt : Int)) (b := (0 : Int)) rfl hb_z h39_0
      have hen : s ≠ 0 := fun z => h39_0 (by rw [z]; rfl)
      refine wk_aload_n xd_f537d10d rfl ?_
      refine wk_bipush xd_7edde8fa ?_
      obtain ⟨xg, hCg, hxg⟩ := mi_ok (w := w) (k := ((Int8.ofInt 59).toInt32)) (c := 59) (by decide) hM.1.2.1
      refine wk_call (kd := 0) (i := 173) xd_7100c73c rfl (wk_cal (as := [.inr (.inr (some 184)), .inl ((Int8.ofInt 59).toInt32)]) (t := []) xl_1558f9b6 rfl xn_225279b5 xc_ca564353 rfl rfl xv_bcdeec94 rfl) (cm_C_mono (by omega) hCg) ?_
      refine wk_if xd_95c7fa7a (t := 101) rfl (fun h48_6 => ?_) (fun h48_6 => ?_)
      · have h48_6 := aw_ne_t (a := ((xg).toInt : Int)) (b := (0 : Int)) rfl hb_z h48_6
        exact hk w s p (hE.trans (ps_mt_end hen (by unfold ps_sg; omega))) hV hM hs0 hs1
      · have h48_6 := aw_ne_f (a := ((xg).toInt : Int)) (b := (0 : Int)) rfl hb_z h48_6
        have hgo : ¬ (s ≠ 0 ∧ ps_sg T n m p) := fun z => by have := z.2; unfold ps_sg at this; omega
        refine wk_aload_n xd_02f78d17 rfl ?_
        refine wk_bipush xd_7d4ab2ce ?_
        refine wk_aload_n xd_99d8c650 rfl ?_
        refine wk_getR xf_bf9d949c xd_ec956f58 ?_
        refine wk_iconst xd_cc44612a ?_
        refine aw_iaload (i := 0) xf_9cb75a54 (show ((Int32.ofInt 0)).toInt = 0 from by decide) (by omega) (by omega) xd_5cbd570c ?_
        obtain ⟨xl, wl, hCl, hVl, hRl⟩ := cr_look hM hQ (show (((Int8.ofInt 16).toInt32)).toInt = 16 from by decide) (show ((w.1 187 0)).toInt = (((h 0).toNat : Int) : Int) from hcn.1)
        have hVla := cr_V_tr hV hVl
        refine wk_call (kd := 0) (i := 201) xd_2a90f8f9 rfl (wk_cal (as := [.inr (.inr (some 184)), .inl ((Int8.ofInt 16).toInt32), .inl (w.1 187 0)]) (t := []) xl_0302e729 rfl xn_77145da2 xc_6d225164 rfl rfl xv_5b2ff62c rfl) (cm_C_mono (by omega) hCl) ?_
        rcases hRl with ⟨u, eu, hxl, hgl, hMl⟩ | ⟨ku, qu, eu, hxl, hBl⟩
        · have hu := ps_look_b eu
          have hxi := ps_ofInt hgl
          have hst := ps_set hs0 hs1 (show 0 ≤ (wl.1 184 18).toInt by omega) (show (wl.1 184 18).toInt < 6 by omega)
          refine wk_if xd_90517844 (t := 68) rfl (fun _ => ?_) (fun h => absurd (aw_ne_f hxl hb_z h) (by omega))
          refine wk_iload_n xd_e1e00dc0 rfl ?_
          refine wk_aload_n xd_5a506719 rfl ?_
          refine wk_getI xf_fcf1580f xd_4d7f4916 ?_
          obtain ⟨xb, hCb, hxb⟩ := cr_bit (w := wl) (s := s) (i := wl.1 184 18)
          refine wk_call (kd := 1) (i := 207) xd_e3eae788 rfl (wk_cal (as := [.inl s, .inl (wl.1 184 18)]) (t := []) xl_51981a2a rfl xn_bbe7362a xc_15bb4986 rfl rfl rfl rfl) (cm_C_mono (by omega) hCb) ?_
          refine wk_if xd_385f1ac6 (t := 85) rfl (fun h76_8 => ?_) (fun h76_8 => ?_)
          · have h76_8 := aw_eq_t (a := ((xb).toInt : Int)) (b := (0 : Int)) rfl hb_z h76_8
            have hbt : ps_bt s (Int32.ofInt u) = 0 := by
              rw [← hxi]
              rcases hst.2.2.2.2.2 with z | z
              · exact z
              · exfalso; omega
            refine wk_iload_n xd_18466b4f rfl ?_
            refine wk_iconst xd_a1003c7b ?_
            refine wk_aload_n xd_d51338ab rfl ?_
            refine wk_getI xf_fcf1580f xd_0801f4a6 ?_
            refine aw_ishl xd_c0d6b858 ?_
            refine aw_ior xd_bcdb8928 ?_
            refine wk_istore_n xd_57ed3c3f (by rw [xm_75bfe853]; rfl) rfl ?_
            refine wk_aload_n xd_22d364b1 rfl ?_
            obtain ⟨wn10_, hCn10_, hVn10_, hMn10_⟩ := cr_next hMl hu.2.2
            have hVn10_a := cr_V_tr hVla hVn10_
            refine wk_call (kd := 0) (i := 179) xd_58f4f449 rfl (wk_cal (as := [.inr (.inr (some 184))]) (t := []) xl_4e4ccaea rfl xn_00af7311 xc_b2cf5bb1 rfl rfl xv_e7aa8f3d rfl) (cm_C_mono (by omega) hCn10_) ?_
            refine wk_goto xd_727ba69a (t := 38) rfl ?_
            have e9 : (s ||| ((Int32.ofInt 1) <<< ((wl.1 184 18) &&& 31))) = ps_or s (Int32.ofInt u) := by rw [← hxi]; rfl
            have hb0 : ps_bt s (wl.1 184 18) = 0 := by rw [hxi]; exact hbt
            rw [e9]
            refine ih (i + 1) _ _ (by omega) ?_ ?_ ?_ (hE.trans (ps_mt_go hgo eu hbt)) hVn10_a hMn10_
            · rw [← hxi, hst.2.1 hb0]; omega
            · rw [← hxi]; exact hst.2.2.1
            · rw [← hxi]; exact hst.2.2.2.1
          · have h76_8 := aw_eq_f (a := ((xb).toInt : Int)) (b := (0 : Int)) rfl hb_z h76_8
            have hbt : ¬ ps_bt s (Int32.ofInt u) = 0 := by
              rw [← hxi]
              intro z
              rw [z] at hxb
              have z0 : (0 : Int32).toInt = 0 := rfl
              omega
            refine wk_aload_n xd_db75023e rfl ?_
            refine wk_iconst xd_a931359b ?_
            obtain ⟨wr11_, hCr11_, hVr11_, hBr11_⟩ := cr_bad (k := (Int32.ofInt 3)) (c := 3) hMl (by decide)
            have hVr11_a := cr_V_tr hVla hVr11_
            refine wk_call (kd := 0) (i := 176) xd_10e1c576 rfl (wk_cal (as := [.inr (.inr (some 184)), .inl (Int32.ofInt 3)]) (t := []) xl_5e3d8b74 rfl xn_f63023b8 xc_1907b494 rfl rfl xv_a1095a1b rfl) (cm_C_mono (by omega) hCr11_) ?_
            exact wk_ireturn xd_33aec417 xr_2aceb947 wk_z0 (hb _ _ _ (hE.trans (ps_mt_e2 hgo eu hbt)) hVr11_a hBr11_)
        · skip
          refine wk_if xd_90517844 (t := 68) rfl (fun h => absurd (aw_ne_t hxl hb_z h) (by omega)) (fun _ => ?_)
          refine wk_iconst xd_71132497 ?_
          exact wk_ireturn xd_83023a74 xr_2aceb947 wk_z0 (hb _ _ _ (hE.trans (ps_mt_e1 hgo eu)) hVla hBl)
theorem cr_meet {w : cm_W} {T : Nat → Int} {n m p : Nat} {f : Nat → Int} {g : Nat → Int64} {a0 b0 : Int} {h : Nat → Int} {nm : Nat → Nat} (hM : cr_M w T n m p f g a0 b0) (hQ : ps_Q tx_F f g h nm) (hs : 1 ≤ (tx_tk T n m p).1 ∧ (tx_tk T n m p).1 ≤ 3)  : ∃ x w', cm_C 5 282 [.inr (.inr (some 184))] w (some (.inl x), w') ∧ cr_V w w' ∧ cr_P T n m (ps_meet T n m h nm a0 b0 p) x w' := by
  have hbd := hQ.2.2
  unfold ps_bd at hbd
  have hcn := cr_c hM hQ
  have h : ∃ o, cm_C (4 + 1) 282 [.inr (.inr (some 184))] w o ∧ (fun o : cm_O => ∃ x w', o = (some (.inl x), w') ∧ cr_V w w' ∧ cr_P T n m (ps_meet T n m h nm a0 b0 p) x w') o := by
    refine wk_entry (by rw [xm_75bfe853]; exact Nat.le_of_ble_eq_true rfl) ?_
    rw [show cm_ent 282 [.inr (.inr (some 184))] = [some (.inr (.inr (some 184))), none, none] from by unfold cm_ent; rw [xm_75bfe853]; rfl]
    refine wk_aload_n xd_eded7548 rfl ?_
    refine wk_getR xf_bf9d949c xd_3ce66102 ?_
    refine wk_iconst xd_8ba696c9 ?_
    refine aw_iaload (i := 2) xf_9cb75a54 (show ((Int32.ofInt 2)).toInt = 2 from by decide) (by omega) (by omega) xd_62d45112 ?_
    refine wk_istore_n xd_55c65761 (by rw [xm_75bfe853]; rfl) rfl ?_
    refine wk_iload_n xd_fc37173b rfl ?_
    refine wk_bipush xd_7b9ada33 ?_
    refine wk_icmp xd_99e021fa (t := 19) rfl (fun h10_0 => ?_) (fun h10_0 => ?_)
    · have h10_0 := aw_ne_t (a := (((h 2).toNat : Int) : Int)) (b := (6 : Int)) (show ((w.1 187 2)).toInt = (((h 2).toNat : Int) : Int) from hcn.2.2.1) (show (((Int8.ofInt 6).toInt32)).toInt = 6 from by decide) h10_0
      refine wk_aload_n xd_6b48506e rfl ?_
      obtain ⟨wn2_, hCn2_, hVn2_, hMn2_⟩ := cr_next hM hs
      have hVn2_a := cr_V_tr (cr_V_rf w) hVn2_
      refine wk_call (kd := 0) (i := 179) xd_47878337 rfl (wk_cal (as := [.inr (.inr (some 184))]) (t := []) xl_4e4ccaea rfl xn_00af7311 xc_b2cf5bb1 rfl rfl xv_e7aa8f3d rfl) (cm_C_mono (by omega) hCn2_) ?_
      refine wk_aload_n xd_de796989 rfl ?_
      refine wk_bipush xd_270c856d ?_
      refine wk_iload_n xd_2235d813 rfl ?_
      refine aw_iadd (a := (26 : Int)) (b := (((h 2).toNat : Int) : Int)) (e := (((h 2).toNat : Int) + 26 : Int)) xd_d3ae99ac (show (((Int8.ofInt 26).toInt32)).toInt = 26 from by decide) (show ((w.1 187 2)).toInt = (((h 2).toNat : Int) : Int) from hcn.2.2.1) (by omega) (by omega) (by omega) (fun v3_ p3_ => ?_)
      obtain ⟨xf4_, wf4_, hCf4_, hVf4_, hRf4_⟩ := cr_fresh (i := (10 + (h 2).toNat)) (to := v3_) hMn2_ hQ (by have e9 := p3_; omega) (by omega)
      have hVf4_a := cr_V_tr hVn2_a hVf4_
      refine wk_call (kd := 0) (i := 220) xd_5c8d2ce0 rfl (wk_cal (as := [.inr (.inr (some 184)), .inl v3_]) (t := []) xl_e783bbfc rfl xn_371b9f5f xc_6e87bce9 rfl rfl xv_7fce75a6 rfl) (cm_C_mono (by omega) hCf4_) ?_
      rcases hRf4_ with ⟨c, q, ef, hc, hxf4_, hMf4_⟩ | ⟨kf, qf, ef, hxf4_, hBf4_⟩
      · skip
        refine wk_if xd_8ad6432f (t := 36) rfl (fun _ => ?_) (fun h => absurd (aw_ne_f hxf4_ hb_z h) (by omega))
        refine wk_iconst xd_ea3c6fd0 ?_
        refine wk_istore_n xd_8286178a (by rw [xm_75bfe853]; rfl) rfl ?_
        refine cr_mlp (w0 := w) (p0 := q) (ps_Q_g hQ (by unfold ps_ln; omega)) (show ((w.1 187 2)).toInt = (((h 2).toNat : Int) : Int) from hcn.2.2.1) _ (fun w9 s9 p9 hE9 hV9 hM9 hs90 hs91 => ?_) (fun w9 k9 q9 hE9 hV9 hB9 => ?_) 7 0 _ _ rfl (by decide) (by decide) (by decide) (by rw [show (Int32.ofInt 0) = (0 : Int32) from by decide]) hVf4_a hMf4_
        · skip
          refine wk_aload_n xd_6b770f2e rfl ?_
          refine wk_getR xf_bf9d949c xd_2ff795c6 ?_
          refine wk_bipush xd_e75b8622 ?_
          refine wk_iload_n xd_e1de8789 rfl ?_
          refine aw_iadd (a := (33 : Int)) (b := (((h 2).toNat : Int) : Int)) (e := (((h 2).toNat : Int) + 33 : Int)) xd_f83005ec (show (((Int8.ofInt 33).toInt32)).toInt = 33 from by decide) (show ((w.1 187 2)).toInt = (((h 2).toNat : Int) : Int) from hcn.2.2.1) (by omega) (by omega) (by omega) (fun v1_ p1_ => ?_)
          refine wk_iload_n xd_4b0dcc05 rfl ?_
          refine aw_iastore (i := (33 + (h 2).toNat)) xf_9cb75a54 p1_ (by omega) (by omega) xd_f09dc1fd ?_
          have hV2_ := cr_V_h (i := (33 + (h 2).toNat)) (x := s9) hV9
          have hM3_ := cr_M_h (i := (33 + (h 2).toNat)) hM9 (show (s9).toInt = s9.toInt from rfl)
          refine wk_aload_n xd_ea526a09 rfl ?_
          refine wk_getR xf_bf9d949c xd_c8ea3351 ?_
          refine wk_iconst xd_597dcecd ?_
          refine wk_dup2 xd_117f40d7 ?_
          refine aw_iaload (i := 2) xf_9cb75a54 (show ((Int32.ofInt 2)).toInt = 2 from by decide) (by omega) (by omega) xd_c627d278 ?_
          have ek4_ : ((cm_u1 w9 187 (33 + (h 2).toNat) s9).1 187 2).toInt = ((h 2).toNat : Int) := by
            have e8 := congrFun hM3_.2.2.1 2
            have e7 : (ps_up f ((33 + (h 2).toNat)) s9.toInt) 2 = h 2 := by
              have e6 := (ps_Q_c hQ).2.2.1
              exact (ps_up_ne (show 2 ≠ (33 + (h 2).toNat) by omega)).trans (e6)
            have e5 : ((cm_u1 w9 187 (33 + (h 2).toNat) s9).1 187 2).toInt = (ps_up f ((33 + (h 2).toNat)) s9.toInt) 2 := e8
            rw [e5, e7]
            omega
          refine wk_iconst xd_ec1765dd ?_
          refine aw_iadd (a := (((h 2).toNat : Int) : Int)) (b := (1 : Int)) (e := (((h 2).toNat : Int) + 1 : Int)) xd_c0803355 ek4_ (show ((Int32.ofInt 1)).toInt = 1 from by decide) (by omega) (by omega) (by omega) (fun v5_ p5_ => ?_)
          refine aw_iastore (i := 2) xf_9cb75a54 (show ((Int32.ofInt 2)).toInt = 2 from by decide) (by omega) (by omega) xd_c9e56cbd ?_
          have hV6_ := cr_V_h (i := 2) (x := v5_) hV2_
          have hM7_ := cr_M_h (i := 2) hM3_ (show (v5_).toInt = (h 2 + 1) from (by have e9 := p5_; omega))
          refine wk_iconst xd_34991e20 ?_
          exact wk_ireturn xd_8a1c9e41 xr_2aceb947 wk_z1 ⟨_, _, rfl, hV6_, cr_P_n (ps_meet_n (by omega) ef hE9) (by decide) hM7_ (ps_Q_meet hc hQ (by omega))⟩
        · exact ⟨_, _, rfl, hV9, cr_P_e (ps_meet_x (by omega) ef hE9) (by decide) hB9⟩
      · skip
        refine wk_if xd_8ad6432f (t := 36) rfl (fun h => absurd (aw_ne_t hxf4_ hb_z h) (by omega)) (fun _ => ?_)
        refine wk_iconst xd_c46ca650 ?_
        exact wk_ireturn xd_2c4fccc9 xr_2aceb947 wk_z0 ⟨_, _, rfl, hVf4_a, cr_P_e (ps_meet_e (by omega) ef) (by decide) hBf4_⟩
    · have h10_0 := aw_ne_f (a := (((h 2).toNat : Int) : Int)) (b := (6 : Int)) (show ((w.1 187 2)).toInt = (((h 2).toNat : Int) : Int) from hcn.2.2.1) (show (((Int8.ofInt 6).toInt32)).toInt = 6 from by decide) h10_0
      refine wk_aload_n xd_8667c0a1 rfl ?_
      refine wk_iconst xd_dc7ad379 ?_
      obtain ⟨wr7_, hCr7_, hVr7_, hBr7_⟩ := cr_bad (k := (Int32.ofInt 4)) (c := 4) hM (by decide)
      have hVr7_a := cr_V_tr (cr_V_rf w) hVr7_
      refine wk_call (kd := 0) (i := 176) xd_39b057cc rfl (wk_cal (as := [.inr (.inr (some 184)), .inl (Int32.ofInt 4)]) (t := []) xl_5e3d8b74 rfl xn_f63023b8 xc_1907b494 rfl rfl xv_a1095a1b rfl) (cm_C_mono (by omega) hCr7_) ?_
      exact wk_ireturn xd_aace8b1a xr_2aceb947 wk_z0 ⟨_, _, rfl, hVr7_a, cr_P_e (ps_meet_f (by omega)) (by decide) hBr7_⟩
  obtain ⟨o, hC, x, w', rfl, a⟩ := h
  exact ⟨x, w', hC, a⟩

/-! ## by hand: fewestFrom of the class (wip/p2/gen9q.py) -/
set_option maxRecDepth 100000 in
theorem xf_8d18375d : sv_gr sg 127 = [] := by decide +kernel
set_option maxRecDepth 100000 in
theorem xd_d2b4154d : decode (ia_code 222) 0 = .ok (.iload_n 2, 1) := fdd_d (by decide +kernel)
set_option maxRecDepth 100000 in
theorem xl_eb64fec6 : ia_pl (ia_cls 222) 88 = some (1, 176, 1, 0, 1031) := by decide +kernel
set_option maxRecDepth 100000 in
theorem xd_c1ad9fa9 : decode (ia_code 222) 1 = .ok (.invokestatic 88, 3) := fdd_d (by decide +kernel)
set_option maxRecDepth 100000 in
theorem xd_04686b0a : decode (ia_code 222) 4 = .ok (.istore 4, 2) := fdd_d (by decide +kernel)
set_option maxRecDepth 100000 in
theorem xm_a44e3fba : ia_maxL 222 = 6 := by decide +kernel
set_option maxRecDepth 100000 in
theorem xd_1fbde73a : decode (ia_code 222) 6 = .ok (.aload_n 0, 1) := fdd_d (by decide +kernel)
set_option maxRecDepth 100000 in
theorem xd_8a5ec5d3 : decode (ia_code 222) 7 = .ok (.iload 4, 2) := fdd_d (by decide +kernel)
set_option maxRecDepth 100000 in
theorem xd_7eaf5b0a : decode (ia_code 222) 9 = .ok (.iconst 1, 1) := fdd_d (by decide +kernel)
set_option maxRecDepth 100000 in
theorem xl_6b6b01ea : ia_pl (ia_cls 222) 118 = some (1, 226, 0, 0, 1077) := by decide +kernel
set_option maxRecDepth 100000 in
theorem xn_5d199f71 : ia_na 226 = 3 := by decide +kernel
set_option maxRecDepth 100000 in
theorem xc_429abb26 : ia_mc 226 = 0 ∧ ia_ms 226 = 0 := ⟨by decide +kernel, by decide +kernel⟩
set_option maxRecDepth 100000 in
theorem xv_1b218607 : cm_rcv 226 [.inr (.inr (some 121))] = true := by decide +kernel
set_option maxRecDepth 100000 in
theorem xd_e4915f60 : decode (ia_code 222) 10 = .ok (.invokevirtual 118, 3) := fdd_d (by decide +kernel)
set_option maxRecDepth 100000 in
theorem xd_88a3d273 : decode (ia_code 222) 13 = .ok (.aload_n 0, 1) := fdd_d (by decide +kernel)
set_option maxRecDepth 100000 in
theorem xd_9979b000 : decode (ia_code 222) 14 = .ok (.iload_n 1, 1) := fdd_d (by decide +kernel)
set_option maxRecDepth 100000 in
theorem xd_1c28d8c1 : decode (ia_code 222) 15 = .ok (.iconst 1, 1) := fdd_d (by decide +kernel)
set_option maxRecDepth 100000 in
theorem xd_7285392b : decode (ia_code 222) 16 = .ok (.iadd, 1) := fdd_d (by decide +kernel)
set_option maxRecDepth 100000 in
theorem xd_955cda5d : decode (ia_code 222) 17 = .ok (.iload_n 3, 1) := fdd_d (by decide +kernel)
set_option maxRecDepth 100000 in
theorem xl_af3fb2c6 : ia_pl (ia_cls 222) 72 = some (1, 221, 0, 0, 1060) := by decide +kernel
set_option maxRecDepth 100000 in
theorem xn_ef394361 : ia_na 221 = 3 := by decide +kernel
set_option maxRecDepth 100000 in
theorem xc_8603ff98 : ia_mc 221 = 0 ∧ ia_ms 221 = 0 := ⟨by decide +kernel, by decide +kernel⟩
set_option maxRecDepth 100000 in
theorem xv_9bfc74de : cm_rcv 221 [.inr (.inr (some 121))] = true := by decide +kernel
set_option maxRecDepth 100000 in
theorem xd_73991d0b : decode (ia_code 222) 18 = .ok (.invokevirtual 72, 3) := fdd_d (by decide +kernel)
set_option maxRecDepth 100000 in
theorem xd_8301ba8c : decode (ia_code 222) 21 = .ok (.istore 5, 2) := fdd_d (by decide +kernel)
set_option maxRecDepth 100000 in
theorem xd_d0bd7b5b : decode (ia_code 222) 23 = .ok (.aload_n 0, 1) := fdd_d (by decide +kernel)
set_option maxRecDepth 100000 in
theorem xd_a5adf3e1 : decode (ia_code 222) 24 = .ok (.iload 4, 2) := fdd_d (by decide +kernel)
set_option maxRecDepth 100000 in
theorem xd_02279cfa : decode (ia_code 222) 26 = .ok (.iconst (-1), 1) := fdd_d (by decide +kernel)
set_option maxRecDepth 100000 in
theorem xd_0539cde8 : decode (ia_code 222) 27 = .ok (.invokevirtual 118, 3) := fdd_d (by decide +kernel)
set_option maxRecDepth 100000 in
theorem xd_a07c939a : decode (ia_code 222) 30 = .ok (.iload 4, 2) := fdd_d (by decide +kernel)
set_option maxRecDepth 100000 in
theorem xl_0fb1b335 : ia_pl (ia_cls 222) 101 = some (1, 182, 1, 0, 1057) := by decide +kernel
set_option maxRecDepth 100000 in
theorem xd_d4b5c02d : decode (ia_code 222) 32 = .ok (.invokestatic 101, 3) := fdd_d (by decide +kernel)
set_option maxRecDepth 100000 in
theorem xd_103f3d0f : decode (ia_code 222) 35 = .ok (.iload 5, 2) := fdd_d (by decide +kernel)
set_option maxRecDepth 100000 in
theorem xd_e963893b : decode (ia_code 222) 37 = .ok (.iadd, 1) := fdd_d (by decide +kernel)
set_option maxRecDepth 100000 in
theorem xd_c4fd2449 : decode (ia_code 222) 38 = .ok (.ireturn, 1) := fdd_d (by decide +kernel)
set_option maxRecDepth 100000 in
theorem xr_fba6525f : ia_ret 222 = some .int := by decide +kernel
set_option maxRecDepth 100000 in
theorem xd_c8f95242 : decode (ia_code 221) 54 = .ok (.iload 5, 2) := fdd_d (by decide +kernel)
set_option maxRecDepth 100000 in
theorem xd_e9ddaaa5 : decode (ia_code 221) 56 = .ok (.iload_n 2, 1) := fdd_d (by decide +kernel)
set_option maxRecDepth 100000 in
theorem xd_0a9f50fd : decode (ia_code 221) 57 = .ok (.if_icmp .ge 49, 3) := fdd_d (by decide +kernel)
set_option maxRecDepth 100000 in
theorem xd_de18d209 : decode (ia_code 221) 60 = .ok (.iload 4, 2) := fdd_d (by decide +kernel)
set_option maxRecDepth 100000 in
theorem xd_915c2213 : decode (ia_code 221) 62 = .ok (.aload_n 0, 1) := fdd_d (by decide +kernel)
set_option maxRecDepth 100000 in
theorem xd_2286816b : decode (ia_code 221) 63 = .ok (.getfield 30, 3) := fdd_d (by decide +kernel)
set_option maxRecDepth 100000 in
theorem xf_d6c847f0 : wk_gf 221 30 121 7 (126 + 3) = true := by decide +kernel
set_option maxRecDepth 100000 in
theorem xd_f663795d : decode (ia_code 221) 66 = .ok (.iload_n 1, 1) := fdd_d (by decide +kernel)
set_option maxRecDepth 100000 in
theorem xd_da28824a : decode (ia_code 221) 67 = .ok (.iaload, 1) := fdd_d (by decide +kernel)
set_option maxRecDepth 100000 in
theorem xd_0401a7ff : decode (ia_code 221) 68 = .ok (.if_icmp .le 38, 3) := fdd_d (by decide +kernel)
set_option maxRecDepth 100000 in
theorem xd_669c7e09 : decode (ia_code 221) 71 = .ok (.aload_n 0, 1) := fdd_d (by decide +kernel)
set_option maxRecDepth 100000 in
theorem xd_771abde9 : decode (ia_code 221) 72 = .ok (.iload_n 1, 1) := fdd_d (by decide +kernel)
set_option maxRecDepth 100000 in
theorem xd_8f4e1d9a : decode (ia_code 221) 73 = .ok (.iload 5, 2) := fdd_d (by decide +kernel)
set_option maxRecDepth 100000 in
theorem xd_441331ec : decode (ia_code 221) 75 = .ok (.iload 4, 2) := fdd_d (by decide +kernel)
set_option maxRecDepth 100000 in
theorem xd_2de58ec3 : decode (ia_code 221) 77 = .ok (.iconst 1, 1) := fdd_d (by decide +kernel)
set_option maxRecDepth 100000 in
theorem xd_78872488 : decode (ia_code 221) 78 = .ok (.isub, 1) := fdd_d (by decide +kernel)
set_option maxRecDepth 100000 in
theorem xl_a78475d0 : ia_pl (ia_cls 221) 107 = some (1, 219, 0, 0, 1068) := by decide +kernel
set_option maxRecDepth 100000 in
theorem xn_c7b9efad : ia_na 219 = 4 := by decide +kernel
set_option maxRecDepth 100000 in
theorem xc_68402cf9 : ia_mc 219 = 0 ∧ ia_ms 219 = 0 := ⟨by decide +kernel, by decide +kernel⟩
set_option maxRecDepth 100000 in
theorem xv_9a9f065d : cm_rcv 219 [.inr (.inr (some 121))] = true := by decide +kernel
set_option maxRecDepth 100000 in
theorem xd_16d99c6b : decode (ia_code 221) 79 = .ok (.invokevirtual 107, 3) := fdd_d (by decide +kernel)
set_option maxRecDepth 100000 in
theorem xd_df39d4d7 : decode (ia_code 221) 82 = .ok (.ifCond .eq 18, 3) := fdd_d (by decide +kernel)
set_option maxRecDepth 100000 in
theorem xd_84b6aa9f : decode (ia_code 221) 100 = .ok (.iinc 5 1, 3) := fdd_d (by decide +kernel)
set_option maxRecDepth 100000 in
theorem xm_e3ee456a : ia_maxL 221 = 6 := by decide +kernel
set_option maxRecDepth 100000 in
theorem xd_259d1156 : decode (ia_code 221) 103 = .ok (.goto (-49), 3) := fdd_d (by decide +kernel)
set_option maxRecDepth 100000 in
theorem xd_988929ac : decode (ia_code 221) 85 = .ok (.iload 4, 2) := fdd_d (by decide +kernel)
set_option maxRecDepth 100000 in
theorem xd_684307ba : decode (ia_code 221) 87 = .ok (.aload_n 0, 1) := fdd_d (by decide +kernel)
set_option maxRecDepth 100000 in
theorem xd_792026ef : decode (ia_code 221) 88 = .ok (.iload_n 1, 1) := fdd_d (by decide +kernel)
set_option maxRecDepth 100000 in
theorem xd_92e20dd1 : decode (ia_code 221) 89 = .ok (.iload 5, 2) := fdd_d (by decide +kernel)
set_option maxRecDepth 100000 in
theorem xd_246f90ea : decode (ia_code 221) 91 = .ok (.iload_n 2, 1) := fdd_d (by decide +kernel)
set_option maxRecDepth 100000 in
theorem xl_b6f6a429 : ia_pl (ia_cls 221) 111 = some (1, 222, 0, 0, 1073) := by decide +kernel
set_option maxRecDepth 100000 in
theorem xn_36fdac12 : ia_na 222 = 4 := by decide +kernel
set_option maxRecDepth 100000 in
theorem xc_b746bc75 : ia_mc 222 = 0 ∧ ia_ms 222 = 0 := ⟨by decide +kernel, by decide +kernel⟩
set_option maxRecDepth 100000 in
theorem xv_c0ebc5cb : cm_rcv 222 [.inr (.inr (some 121))] = true := by decide +kernel
set_option maxRecDepth 100000 in
theorem xd_9c89e6fe : decode (ia_code 221) 92 = .ok (.invokevirtual 111, 3) := fdd_d (by decide +kernel)
set_option maxRecDepth 100000 in
theorem xd_bcab66d6 : decode (ia_code 221) 95 = .ok (.invokestatic 96, 3) := fdd_d (by decide +kernel)
set_option maxRecDepth 100000 in
theorem xl_1191afc4 : ia_pl (ia_cls 221) 96 = some (7, 0, 0, 0, 1052) := by decide +kernel
set_option maxRecDepth 100000 in
theorem xd_9401461f : decode (ia_code 221) 98 = .ok (.istore 4, 2) := fdd_d (by decide +kernel)
set_option maxRecDepth 100000 in
theorem xd_77c3e74d : decode (ia_code 221) 106 = .ok (.aload_n 0, 1) := fdd_d (by decide +kernel)
set_option maxRecDepth 100000 in
theorem xd_aa105bc1 : decode (ia_code 221) 107 = .ok (.getfield 33, 3) := fdd_d (by decide +kernel)
set_option maxRecDepth 100000 in
theorem xf_4a6d25d4 : wk_gf 221 33 121 9 (127 + 3) = true := by decide +kernel
set_option maxRecDepth 100000 in
theorem xd_068f59ad : decode (ia_code 221) 110 = .ok (.iload_n 3, 1) := fdd_d (by decide +kernel)
set_option maxRecDepth 100000 in
theorem xd_805f1ac4 : decode (ia_code 221) 111 = .ok (.aload_n 0, 1) := fdd_d (by decide +kernel)
set_option maxRecDepth 100000 in
theorem xd_0946aeb1 : decode (ia_code 221) 112 = .ok (.getfield 69, 3) := fdd_d (by decide +kernel)
set_option maxRecDepth 100000 in
theorem xf_4a8370b8 : wk_gf 221 69 121 10 0 = true := by decide +kernel
set_option maxRecDepth 100000 in
theorem xd_3113ba78 : decode (ia_code 221) 115 = .ok (.bipush 32, 2) := fdd_d (by decide +kernel)
set_option maxRecDepth 100000 in
theorem xd_9b2418db : decode (ia_code 221) 117 = .ok (.imul, 1) := fdd_d (by decide +kernel)
set_option maxRecDepth 100000 in
theorem xd_deec885f : decode (ia_code 221) 118 = .ok (.iload 4, 2) := fdd_d (by decide +kernel)
set_option maxRecDepth 100000 in
theorem xd_e606649d : decode (ia_code 221) 120 = .ok (.iadd, 1) := fdd_d (by decide +kernel)
set_option maxRecDepth 100000 in
theorem xd_bbf2e2d3 : decode (ia_code 221) 121 = .ok (.iastore, 1) := fdd_d (by decide +kernel)
set_option maxRecDepth 100000 in
theorem xf_095f7f0d : wk_ar 127 50 7776 = true := by decide +kernel
set_option maxRecDepth 100000 in
theorem xd_26a22d14 : decode (ia_code 221) 122 = .ok (.iload 4, 2) := fdd_d (by decide +kernel)
set_option maxRecDepth 100000 in
theorem xd_91ec9677 : decode (ia_code 221) 124 = .ok (.ireturn, 1) := fdd_d (by decide +kernel)
set_option maxRecDepth 100000 in
theorem xr_466c3e91 : ia_ret 221 = some .int := by decide +kernel
set_option maxRecDepth 100000 in
theorem xd_67438265 : decode (ia_code 221) 0 = .ok (.iload_n 1, 1) := fdd_d (by decide +kernel)
set_option maxRecDepth 100000 in
theorem xd_9b53926c : decode (ia_code 221) 1 = .ok (.aload_n 0, 1) := fdd_d (by decide +kernel)
set_option maxRecDepth 100000 in
theorem xd_47a75beb : decode (ia_code 221) 2 = .ok (.getfield 79, 3) := fdd_d (by decide +kernel)
set_option maxRecDepth 100000 in
theorem xf_52655d5f : wk_gf 221 79 121 3 0 = true := by decide +kernel
set_option maxRecDepth 100000 in
theorem xd_3e7a4951 : decode (ia_code 221) 5 = .ok (.if_icmp .lt 5, 3) := fdd_d (by decide +kernel)
set_option maxRecDepth 100000 in
theorem xd_610aa029 : decode (ia_code 221) 8 = .ok (.iconst 0, 1) := fdd_d (by decide +kernel)
set_option maxRecDepth 100000 in
theorem xd_40fcdeee : decode (ia_code 221) 9 = .ok (.ireturn, 1) := fdd_d (by decide +kernel)
set_option maxRecDepth 100000 in
theorem xd_2ab13c50 : decode (ia_code 221) 10 = .ok (.iload_n 1, 1) := fdd_d (by decide +kernel)
set_option maxRecDepth 100000 in
theorem xd_77aaa3e4 : decode (ia_code 221) 11 = .ok (.sipush 1296, 3) := fdd_d (by decide +kernel)
set_option maxRecDepth 100000 in
theorem xd_71730f63 : decode (ia_code 221) 14 = .ok (.imul, 1) := fdd_d (by decide +kernel)
set_option maxRecDepth 100000 in
theorem xd_d6fd8dca : decode (ia_code 221) 15 = .ok (.aload_n 0, 1) := fdd_d (by decide +kernel)
set_option maxRecDepth 100000 in
theorem xl_74df6e49 : ia_pl (ia_cls 221) 104 = some (1, 227, 0, 0, 1064) := by decide +kernel
set_option maxRecDepth 100000 in
theorem xn_8e77d7ed : ia_na 227 = 1 := by decide +kernel
set_option maxRecDepth 100000 in
theorem xc_e4897842 : ia_mc 227 = 0 ∧ ia_ms 227 = 0 := ⟨by decide +kernel, by decide +kernel⟩
set_option maxRecDepth 100000 in
theorem xv_2dd316f4 : cm_rcv 227 [.inr (.inr (some 121))] = true := by decide +kernel
set_option maxRecDepth 100000 in
theorem xd_47be2d3b : decode (ia_code 221) 16 = .ok (.invokevirtual 104, 3) := fdd_d (by decide +kernel)
set_option maxRecDepth 100000 in
theorem xd_bd823003 : decode (ia_code 221) 19 = .ok (.iadd, 1) := fdd_d (by decide +kernel)
set_option maxRecDepth 100000 in
theorem xd_4178e98e : decode (ia_code 221) 20 = .ok (.istore_n 3, 1) := fdd_d (by decide +kernel)
set_option maxRecDepth 100000 in
theorem xd_8ebf8571 : decode (ia_code 221) 21 = .ok (.aload_n 0, 1) := fdd_d (by decide +kernel)
set_option maxRecDepth 100000 in
theorem xd_ea39fd6b : decode (ia_code 221) 22 = .ok (.getfield 33, 3) := fdd_d (by decide +kernel)
set_option maxRecDepth 100000 in
theorem xd_93408d5f : decode (ia_code 221) 25 = .ok (.iload_n 3, 1) := fdd_d (by decide +kernel)
set_option maxRecDepth 100000 in
theorem xd_adb6bdb7 : decode (ia_code 221) 26 = .ok (.iaload, 1) := fdd_d (by decide +kernel)
set_option maxRecDepth 100000 in
theorem xd_d265f624 : decode (ia_code 221) 27 = .ok (.bipush 32, 2) := fdd_d (by decide +kernel)
set_option maxRecDepth 100000 in
theorem xd_ea524e31 : decode (ia_code 221) 29 = .ok (.idiv, 1) := fdd_d (by decide +kernel)
set_option maxRecDepth 100000 in
theorem xd_94e90a82 : decode (ia_code 221) 30 = .ok (.aload_n 0, 1) := fdd_d (by decide +kernel)
set_option maxRecDepth 100000 in
theorem xd_22b464bd : decode (ia_code 221) 31 = .ok (.getfield 69, 3) := fdd_d (by decide +kernel)
set_option maxRecDepth 100000 in
theorem xd_2ffeb80a : decode (ia_code 221) 34 = .ok (.if_icmp .ne 13, 3) := fdd_d (by decide +kernel)
set_option maxRecDepth 100000 in
theorem xd_25f8dea4 : decode (ia_code 221) 47 = .ok (.bipush 31, 2) := fdd_d (by decide +kernel)
set_option maxRecDepth 100000 in
theorem xd_18bf2abe : decode (ia_code 221) 49 = .ok (.istore 4, 2) := fdd_d (by decide +kernel)
set_option maxRecDepth 100000 in
theorem xd_8fe22e1a : decode (ia_code 221) 51 = .ok (.iconst 0, 1) := fdd_d (by decide +kernel)
set_option maxRecDepth 100000 in
theorem xd_3e97629a : decode (ia_code 221) 52 = .ok (.istore 5, 2) := fdd_d (by decide +kernel)
set_option maxRecDepth 100000 in
theorem xd_e250922c : decode (ia_code 221) 37 = .ok (.aload_n 0, 1) := fdd_d (by decide +kernel)
set_option maxRecDepth 100000 in
theorem xd_b149ee16 : decode (ia_code 221) 38 = .ok (.getfield 33, 3) := fdd_d (by decide +kernel)
set_option maxRecDepth 100000 in
theorem xd_23217e9c : decode (ia_code 221) 41 = .ok (.iload_n 3, 1) := fdd_d (by decide +kernel)
set_option maxRecDepth 100000 in
theorem xd_15665328 : decode (ia_code 221) 42 = .ok (.iaload, 1) := fdd_d (by decide +kernel)
set_option maxRecDepth 100000 in
theorem xd_620405e7 : decode (ia_code 221) 43 = .ok (.bipush 32, 2) := fdd_d (by decide +kernel)
set_option maxRecDepth 100000 in
theorem xd_0f8bf334 : decode (ia_code 221) 45 = .ok (.irem, 1) := fdd_d (by decide +kernel)
set_option maxRecDepth 100000 in
theorem xd_4706a0ea : decode (ia_code 221) 46 = .ok (.ireturn, 1) := fdd_d (by decide +kernel)
/-- the memo has this number for these seats and stores -/
def jSt (w : cm_W) (T : Int) (s : Nat) (l : Nat → Nat) (v : Int) : Prop := (w.1 127 (jCd l + 1296 * s)).toInt = 32 * T + v
/-- why a number is so: none, or a plate and what the others need -/
def jOk (w : cm_W) (S pc : Nat) (g T : Int) (s : Nat) (l : Nat → Nat) (v : Int) : Prop := v = 31 ∨ ∃ k, k < pc ∧ (w.1 124 (35 * s + k)).toInt = g ∧ (∀ f, f < 4 → jn k f ≤ l f) ∧ jP k + (w.1 126 (s + 1)).toInt ≤ v ∧ ((s + 1 = S ∧ v = jP k) ∨ (s + 1 < S ∧ jSt w T (s + 1) (fun f => l f - jn k f) (v - jP k)))
def jMi (w : cm_W) (S pc : Nat) (g T : Int) : Prop := (∀ i, i < 7776 → 0 ≤ (w.1 127 i).toInt ∧ (w.1 127 i).toInt ≤ 32 * T + 31) ∧ ∀ s, s < S → ∀ l : Nat → Nat, (∀ f, f < 4 → l f ≤ 5) → ∀ v : Int, 0 ≤ v → v ≤ 31 → jSt w T s l v → (w.1 126 s).toInt ≤ v ∧ jOk w S pc g T s l v
def jEv (w : cm_W) (S pc : Nat) (g T : Int) : Prop := (w.1 121 3).toInt = (S : Int) ∧ (w.1 121 8).toInt = g ∧ (w.1 121 10).toInt = T ∧ S ≤ 6 ∧ pc ≤ 35 ∧ 1 ≤ T ∧ T ≤ 1000000 ∧ (w.1 126 S).toInt = 0 ∧ ∀ s, s < S → 0 ≤ (w.1 126 s).toInt ∧ (w.1 126 s).toInt ≤ 31 ∧ ∀ k, k < pc → (w.1 124 (35 * s + k)).toInt = g → (w.1 126 s).toInt ≤ jP k + (w.1 126 (s + 1)).toInt
def jFp (w w' : cm_W) (S pc : Nat) (g T : Int) (s : Nat) : Prop := (∀ k i, k ≠ 127 → w'.1 k i = w.1 k i) ∧ (∀ i, i < 1296 * s → w'.1 127 i = w.1 127 i) ∧ (∀ (s' : Nat) (l : Nat → Nat) (v : Int), s' < S → (∀ f, f < 4 → l f ≤ 5) → 0 ≤ v → v ≤ 31 → jSt w T s' l v → jSt w' T s' l v) ∧ jMi w' S pc g T ∧ sv_w sg w'
def jRs (w : cm_W) (S : Nat) (T : Int) (s : Nat) (l : Nat → Nat) (x lf : Int) : Prop := (s = S ∧ x = 0) ∨ (s < S ∧ 0 ≤ x ∧ x ≤ 31 ∧ jSt w T s l x ∧ lf ≤ x)
def jFF (N S pc : Nat) (g T : Int) (s : Nat) : Prop := ∀ (w : cm_W) (q pv : Int32) (l : Nat → Nat), q.toInt = (s : Int) → pv.toInt = (pc : Int) → jEv w S pc g T → jTl w l → (∀ f, f < 4 → l f ≤ 5) → jMi w S pc g T → sv_w sg w → ∃ x w', cm_C N 221 [.inr (.inr (some 121)), .inl q, .inl pv] w (some (.inl x), w') ∧ jFp w w' S pc g T s ∧ jRs w' S T s l x.toInt (w.1 126 s).toInt
theorem jEv_fr {w w' : cm_W} {S pc : Nat} {g T : Int} (h : ∀ k i, k = 121 ∨ k = 124 ∨ k = 126 → w'.1 k i = w.1 k i) (he : jEv w S pc g T) : jEv w' S pc g T := by
  obtain ⟨e1, e2, e3, e4, e5, e6, e7, e8, e9⟩ := he
  refine ⟨by rw [h 121 3 (by omega)]; exact e1, by rw [h 121 8 (by omega)]; exact e2, by rw [h 121 10 (by omega)]; exact e3, e4, e5, e6, e7, by rw [h 126 S (by omega)]; exact e8, fun s hs => ?_⟩
  rw [h 126 s (by omega), h 126 (s + 1) (by omega)]
  obtain ⟨a, b, c⟩ := e9 s hs
  exact ⟨a, b, fun k hk hd => c k hk (by rw [← h 124 _ (by omega)]; exact hd)⟩
/-- what stands behind a number is still so -/
theorem jOk_mo {w w' : cm_W} {S pc : Nat} {g T : Int} {s : Nat} {l : Nat → Nat} {v : Int} (hs : s < S) (hl : ∀ f, f < 4 → l f ≤ 5) (hv : v ≤ 31) (he : jEv w S pc g T) (h1 : ∀ k i, k = 124 ∨ k = 126 → w'.1 k i = w.1 k i) (h2 : ∀ (l' : Nat → Nat) (v' : Int), s + 1 < S → (∀ f, f < 4 → l' f ≤ 5) → 0 ≤ v' → v' ≤ 31 → jSt w T (s + 1) l' v' → jSt w' T (s + 1) l' v') (h : jOk w S pc g T s l v) : jOk w' S pc g T s l v := by
  rcases h with h | ⟨k, k1, k2, k3, k4, k5⟩
  · exact .inl h
  · refine .inr ⟨k, k1, by rw [h1 124 _ (by omega)]; exact k2, k3, by rw [h1 126 _ (by omega)]; exact k4, ?_⟩
    rcases k5 with k5 | ⟨k5, k6⟩
    · exact .inl k5
    · have hp := jP_in k
      have h0 := (he.2.2.2.2.2.2.2.2 (s + 1) k5).1
      exact .inr ⟨k5, h2 _ _ k5 (fun f hf => by have := hl f hf; show l f - jn k f ≤ 5; omega) (by omega) (by omega) k6⟩
theorem jMi_fr {w w' : cm_W} {S pc : Nat} {g T : Int} (h : ∀ k i, k = 124 ∨ k = 126 ∨ k = 127 → w'.1 k i = w.1 k i) (hm : jMi w S pc g T) : jMi w' S pc g T := by
  obtain ⟨m1, m2⟩ := hm
  refine ⟨fun i hi => by rw [h 127 i (by omega)]; exact m1 i hi, fun s hs l hl v v0 v1 hst => ?_⟩
  have hst' : jSt w T s l v := by
    unfold jSt at hst ⊢
    rw [← h 127 _ (by omega)]
    exact hst
  obtain ⟨a, b⟩ := m2 s hs l hl v v0 v1 hst'
  refine ⟨by rw [h 126 s (by omega)]; exact a, ?_⟩
  rcases b with b | ⟨k, k1, k2, k3, k4, k5⟩
  · exact .inl b
  · refine .inr ⟨k, k1, by rw [h 124 _ (by omega)]; exact k2, k3, by rw [h 126 _ (by omega)]; exact k4, ?_⟩
    rcases k5 with k5 | ⟨k5, k6⟩
    · exact .inl k5
    · refine .inr ⟨k5, ?_⟩
      unfold jSt at k6 ⊢
      rw [h 127 _ (by omega)]
      exact k6
theorem jCd_lt {l : Nat → Nat} (h : ∀ f, f < 4 → l f ≤ 5) : jCd l < 1296 := by
  have g0 := h 0 (by omega)
  have g1 := h 1 (by omega)
  have g2 := h 2 (by omega)
  have g3 := h 3 (by omega)
  unfold jCd
  omega
theorem jCd_in {l l' : Nat → Nat} (h : ∀ f, f < 4 → l f ≤ 5) (h' : ∀ f, f < 4 → l' f ≤ 5) (e : jCd l = jCd l') : ∀ f, f < 4 → l f = l' f := by
  have g0 := h 0 (by omega)
  have g1 := h 1 (by omega)
  have g2 := h 2 (by omega)
  have g3 := h 3 (by omega)
  have k0 := h' 0 (by omega)
  have k1 := h' 1 (by omega)
  have k2 := h' 2 (by omega)
  have k3 := h' 3 (by omega)
  unfold jCd at e
  intro f hf
  have hf' : f = 0 ∨ f = 1 ∨ f = 2 ∨ f = 3 := by omega
  rcases hf' with rfl | rfl | rfl | rfl <;> omega
theorem jCd_eq {l l' : Nat → Nat} (e : ∀ f, f < 4 → l f = l' f) : jCd l = jCd l' := by
  unfold jCd
  rw [e 0 (by omega), e 1 (by omega), e 2 (by omega), e 3 (by omega)]
theorem jOk_eq {w : cm_W} {S pc : Nat} {g T : Int} {s : Nat} {l l' : Nat → Nat} {v : Int} (e : ∀ f, f < 4 → l f = l' f) (h : jOk w S pc g T s l v) : jOk w S pc g T s l' v := by
  rcases h with h | ⟨k, k1, k2, k3, k4, k5⟩
  · exact .inl h
  · refine .inr ⟨k, k1, k2, fun f hf => by rw [← e f hf]; exact k3 f hf, k4, ?_⟩
    rcases k5 with k5 | ⟨k5, k6⟩
    · exact .inl k5
    · refine .inr ⟨k5, ?_⟩
      unfold jSt at k6 ⊢
      rw [← jCd_eq (l := fun f => l f - jn k f) (l' := fun f => l' f - jn k f) (fun f hf => by show l f - jn k f = l' f - jn k f; rw [e f hf])]
      exact k6
/-- a number is put down -/
theorem jput {w0 w : cm_W} {S pc : Nat} {g T : Int} {s : Nat} {l : Nat → Nat} {b : Int} {v : Int32} (hs : s < S) (he : jEv w S pc g T) (hl : ∀ f, f < 4 → l f ≤ 5) (hF : jFp w0 w S pc g T (s + 1)) (hno : (w.1 127 (jCd l + 1296 * s)).toInt / 32 ≠ T) (hb0 : (w.1 126 s).toInt ≤ b) (hb1 : b ≤ 31) (hok : jOk w S pc g T s l b) (hv : v.toInt = 32 * T + b) : jFp w0 (cm_u1 w 127 (jCd l + 1296 * s) v) S pc g T s ∧ jSt (cm_u1 w 127 (jCd l + 1296 * s) v) T s l b := by
  obtain ⟨f1, f2, f3, f4, f5⟩ := hF
  have hc := jCd_lt hl
  have hb00 := (he.2.2.2.2.2.2.2.2 s hs).1
  have hS6 := he.2.2.2.1
  have hst : jSt (cm_u1 w 127 (jCd l + 1296 * s) v) T s l b := by
    unfold jSt
    rw [hs_u1_self, hv]
  have hper : ∀ (s' : Nat) (l' : Nat → Nat) (v' : Int), s' < S → (∀ f, f < 4 → l' f ≤ 5) → 0 ≤ v' → v' ≤ 31 → jSt w T s' l' v' → jSt (cm_u1 w 127 (jCd l + 1296 * s) v) T s' l' v' := fun s' l' v' hs' hl' v0 v1 h => by
    have hc' := jCd_lt hl'
    unfold jSt at h ⊢
    by_cases e : jCd l' + 1296 * s' = jCd l + 1296 * s
    · rw [e] at h
      omega
    · rw [hs_u1_ne (by omega)]
      exact h
  have hok2 : ∀ s' l' v', s' < S → (∀ f, f < 4 → l' f ≤ 5) → v' ≤ 31 → jOk w S pc g T s' l' v' → jOk (cm_u1 w 127 (jCd l + 1296 * s) v) S pc g T s' l' v' := fun s' l' v' hs' hl' hv' h => jOk_mo hs' hl' hv' he (fun k i hk => hs_u1_ne (by omega)) (fun l2 v2 a b c d e => hper _ l2 v2 a b c d e) h
  refine ⟨⟨fun k i hk => (hs_u1_ne (by omega)).trans (f1 k i hk), fun i hi => (hs_u1_ne (by omega)).trans (f2 i (by omega)), fun s' l' v' a1 a2 a3 a4 a5 => hper s' l' v' a1 a2 a3 a4 (f3 s' l' v' a1 a2 a3 a4 a5), ⟨fun i hi => ?_, fun s' hs' l' hl' v' v0 v1 h => ?_⟩, sv_w_u1 f5 (by rw [aw_tv2 xf_8d18375d]; exact sv_in_top _)⟩, hst⟩
  · by_cases e : i = jCd l + 1296 * s
    · rw [e, hs_u1_self, hv]
      have := he.2.2.2.2.2.1
      omega
    · rw [hs_u1_ne (by omega)]
      exact f4.1 i hi
  · have hc' := jCd_lt hl'
    by_cases e : jCd l' + 1296 * s' = jCd l + 1296 * s
    · have es : s' = s := by omega
      subst es
      have el : jCd l = jCd l' := by omega
      unfold jSt at h
      rw [e, hs_u1_self, hv] at h
      obtain rfl : v' = b := by omega
      rw [hs_u1_ne (by omega)]
      exact ⟨hb0, hok2 _ _ _ hs' hl' v1 (jOk_eq (jCd_in hl hl' el) hok)⟩
    · have h' : jSt w T s' l' v' := by
        unfold jSt at h ⊢
        rw [hs_u1_ne (by omega)] at h
        exact h
      obtain ⟨a, b⟩ := f4.2 s' hs' l' hl' v' v0 v1 h'
      rw [hs_u1_ne (by omega)]
      exact ⟨a, hok2 _ _ _ hs' hl' v1 b⟩
theorem jfw {N S pc : Nat} {g T : Int} {s : Nat} (hN : 2 ≤ N) (hFF : jFF N S pc g T (s + 1)) (hs : s < S) {w : cm_W} {q kk pv : Int32} {l : Nat → Nat} {k : Nat} (hq : q.toInt = ((s : Int) : Int)) (hk : kk.toInt = ((k : Int) : Int)) (hpv : pv.toInt = ((pc : Int) : Int)) (hk35 : k < 35) (he : jEv w S pc g T) (hl : jTl w l) (h5 : ∀ f, f < 4 → l f ≤ 5) (hn : ∀ f, f < 4 → jn k f ≤ l f) (hm : jMi w S pc g T) (hG : sv_w sg w) : ∃ x w', cm_C (N + 1) 222 [.inr (.inr (some 121)), .inl q, .inl kk, .inl pv] w (some (.inl x), w') ∧ jFp w w' S pc g T (s + 1) ∧ ∃ r : Int, x.toInt = jP k + r ∧ jRs w' S T (s + 1) (fun f => l f - jn k f) r (w.1 126 (s + 1)).toInt := by
  have hkk : kk = Int32.ofNat k := hk_of hk (by omega)
  have hS6 := he.2.2.2.1
  have h : ∃ o, cm_C (N + 1) 222 [.inr (.inr (some 121)), .inl q, .inl kk, .inl pv] w o ∧ (fun o : cm_O => ∃ x w', o = (some (.inl x), w') ∧ jFp w w' S pc g T (s + 1) ∧ ∃ r : Int, x.toInt = jP k + r ∧ jRs w' S T (s + 1) (fun f => l f - jn k f) r (w.1 126 (s + 1)).toInt) o := by
    refine wk_entry (by rw [xm_a44e3fba]; exact Nat.le_of_ble_eq_true rfl) ?_
    rw [show cm_ent 222 [.inr (.inr (some 121)), .inl q, .inl kk, .inl pv] = [some (.inr (.inr (some 121))), some (.inl q), some (.inl kk), some (.inl pv), none, none] from by unfold cm_ent; rw [xm_a44e3fba]; rfl]
    refine wk_iload_n xd_d2b4154d rfl ?_
    refine wk_call (kd := 1) (i := 88) xd_c1ad9fa9 rfl (wk_cal (as := [.inl kk]) (t := []) xl_eb64fec6 rfl xn_d2327573 xc_fe717d23 rfl rfl rfl rfl) (cm_C_mono (by omega) (jat_ok w kk)) ?_
    refine wk_istore xd_04686b0a (by rw [xm_a44e3fba]; rfl) rfl ?_
    refine wk_aload_n xd_1fbde73a rfl ?_
    refine wk_iload xd_8a5ec5d3 rfl ?_
    refine wk_iconst xd_7eaf5b0a ?_
    obtain ⟨w1, hC1, hG1, hS1⟩ := jsv_p (w := w) (cm_pr ia_arA kk) (t := (Int32.ofInt 1)) (by decide) (fun f hf => by rw [hl f hf]; have := h5 f hf; omega) hG
    have hl1 : jTl w1 (fun f => l f - jn k f) := fun f hf => by
      rw [hS1.1 f hf, hl f hf, hkk, jn_to k f]
      have := hn f hf
      show (l f : Int) - 1 * (jn k f : Int) = ((l f - jn k f : Nat) : Int)
      omega
    have he1 : jEv w1 S pc g T := jEv_fr (fun a b hab => hS1.2.2 a b (by omega)) he
    have hm1 : jMi w1 S pc g T := jMi_fr (fun a b hab => hS1.2.2 a b (by omega)) hm
    refine wk_call (kd := 0) (i := 118) xd_e4915f60 rfl (wk_cal (as := [.inr (.inr (some 121)), .inl (cm_pr ia_arA kk), .inl (Int32.ofInt 1)]) (t := []) xl_6b6b01ea rfl xn_5d199f71 xc_429abb26 rfl rfl xv_1b218607 rfl) (cm_C_mono (by omega) hC1) ?_
    refine wk_aload_n xd_88a3d273 rfl ?_
    refine wk_iload_n xd_9979b000 rfl ?_
    refine wk_iconst xd_1c28d8c1 ?_
    refine aw_iadd (a := ((s : Int) : Int)) (b := (1 : Int)) (e := ((s : Int) + 1 : Int)) xd_7285392b hq (show ((Int32.ofInt 1)).toInt = 1 from by decide) (by omega) (by omega) (by omega) (fun v1_ p1_ => ?_)
    refine wk_iload_n xd_955cda5d rfl ?_
    obtain ⟨xr, w2, hC2, hF2, hR2⟩ := hFF w1 v1_ pv (fun f => l f - jn k f) (p1_.trans (by omega)) hpv he1 hl1 (fun f hf => by have := h5 f hf; show l f - jn k f ≤ 5; omega) hm1 hG1
    obtain ⟨p1, p2, p3, p4, p5⟩ := hF2
    refine wk_call (kd := 0) (i := 72) xd_73991d0b rfl (wk_cal (as := [.inr (.inr (some 121)), .inl v1_, .inl pv]) (t := []) xl_af3fb2c6 rfl xn_ef394361 xc_8603ff98 rfl rfl xv_9bfc74de rfl) hC2 ?_
    refine wk_istore xd_8301ba8c (by rw [xm_a44e3fba]; rfl) rfl ?_
    refine wk_aload_n xd_d0bd7b5b rfl ?_
    refine wk_iload xd_a5adf3e1 rfl ?_
    refine wk_iconst xd_02279cfa ?_
    obtain ⟨w3, hC3, hG3, hS3⟩ := jsv_m (w := w2) (cm_pr ia_arA kk) (t := (Int32.ofInt (-1))) (by decide) (fun f hf => by rw [p1 125 f (by decide), hl1 f hf]; have := h5 f hf; show -1000 ≤ ((l f - jn k f : Nat) : Int) ∧ ((l f - jn k f : Nat) : Int) ≤ 1000; omega) p5
    have h3 : ∀ a b, a ≠ 127 → w3.1 a b = w.1 a b := fun a b hab => by
      by_cases ea : a = 125
      · subst ea
        by_cases eb : b < 4
        · apply Int32.toInt_inj.mp
          rw [hS3.1 b eb, p1 125 b (by decide), hS1.1 b eb]
          omega
        · rw [hS3.2.1 b (by omega), p1 125 b (by decide), hS1.2.1 b (by omega)]
      · rw [hS3.2.2 a b ea, p1 a b hab, hS1.2.2 a b ea]
    refine wk_call (kd := 0) (i := 118) xd_0539cde8 rfl (wk_cal (as := [.inr (.inr (some 121)), .inl (cm_pr ia_arA kk), .inl (Int32.ofInt (-1))]) (t := []) xl_6b6b01ea rfl xn_5d199f71 xc_429abb26 rfl rfl xv_1b218607 rfl) (cm_C_mono (by omega) hC3) ?_
    refine wk_iload xd_a07c939a rfl ?_
    refine wk_call (kd := 1) (i := 101) xd_d4b5c02d rfl (wk_cal (as := [.inl (cm_pr ia_arA kk)]) (t := []) xl_0fb1b335 rfl xn_d6e46166 xc_19eec36c rfl rfl rfl rfl) (cm_C_mono (by omega) (jpi_ok w3 (cm_pr ia_arA kk))) ?_
    have hp : (jpi (cm_pr ia_arA kk)).toInt = jP k := by rw [hkk]; rfl
    have hpi := jP_in k
    have hxr : 0 ≤ xr.toInt ∧ xr.toInt ≤ 31 := by rcases hR2 with ⟨-, h⟩ | ⟨-, h1, h2, -, -⟩ <;> omega
    refine wk_iload xd_103f3d0f rfl ?_
    refine aw_iadd (a := ((jP k) : Int)) (b := ((xr).toInt : Int)) (e := ((jP k) + (xr).toInt : Int)) xd_e963893b hp rfl (by omega) (by omega) (by omega) (fun v2_ p2_ => ?_)
    refine wk_ireturn xd_c4fd2449 xr_fba6525f rfl ⟨_, w3, rfl, ⟨h3, fun i hi => ?_, fun s' l' v' a1 a2 a3 a4 a5 => ?_, jMi_fr (fun a b hab => hS3.2.2 a b (by omega)) p4, hG3⟩, xr.toInt, p2_.trans (by omega), ?_⟩
    · rw [hS3.2.2 127 i (by decide), p2 i hi, hS1.2.2 127 i (by decide)]
    · have h9 := p3 s' l' v' a1 a2 a3 a4 (by unfold jSt at a5 ⊢; rw [hS1.2.2 127 _ (by decide)]; exact a5)
      unfold jSt at h9 ⊢
      rw [hS3.2.2 127 _ (by decide)]
      exact h9
    · rcases hR2 with h | ⟨b1, b2, b3, b4, b5⟩
      · exact .inl h
      · refine .inr ⟨b1, b2, b3, ?_, by rw [← hS1.2.2 126 (s + 1) (by decide)]; exact b5⟩
        unfold jSt at b4 ⊢
        rw [hS3.2.2 127 _ (by decide)]
        exact b4
  obtain ⟨o, hC, x, w', rfl, a⟩ := h
  exact ⟨x, w', hC, a⟩
theorem jff_l {N S pc : Nat} {g T : Int} {s : Nat} (hN : 2 ≤ N) (hFF : jFF N S pc g T (s + 1)) (hs : s < S) {w0 : cm_W} {q pv c3 : Int32} {l : Nat → Nat} (hq : q.toInt = ((s : Int) : Int)) (hpv : pv.toInt = ((pc : Int) : Int)) (hc3 : c3.toInt = (((jCd l) : Int) + 1296 * (s : Int) : Int)) (he0 : jEv w0 S pc g T) (hl : jTl w0 l) (h5 : ∀ f, f < 4 → l f ≤ 5) (Q : cm_O → Prop) (hkq : ∀ (be : Int32) w, jFp w0 w S pc g T s ∧ jSt w T s l be.toInt → (w0.1 126 s).toInt ≤ be.toInt → be.toInt ≤ 31 → Q (some (.inl be), w)) : ∀ (n k : Nat) (be z : Int32) (w : cm_W), n + k = pc → z.toInt = (k : Int) → jFp w0 w S pc g T (s + 1) → sv_w sg w → (w.1 127 (jCd l + 1296 * s)).toInt / 32 ≠ T → (w.1 126 s).toInt ≤ be.toInt → be.toInt ≤ 31 → jOk w S pc g T s l be.toInt → cm_X (cm_C (N + 1)) 221 54 [some (.inr (.inr (some 121))), some (.inl q), some (.inl pv), some (.inl c3), some (.inl be), some (.inl z)] [] w Q := by
  have out : ∀ (be z : Int32) (w : cm_W), True → jFp w0 w S pc g T (s + 1) → sv_w sg w → (w.1 127 (jCd l + 1296 * s)).toInt / 32 ≠ T → (w.1 126 s).toInt ≤ be.toInt → be.toInt ≤ 31 → jOk w S pc g T s l be.toInt → cm_X (cm_C (N + 1)) 221 106 [some (.inr (.inr (some 121))), some (.inl q), some (.inl pv), some (.inl c3), some (.inl be), some (.inl z)] [] w Q := fun be z w _ hF hG hno hbe0 hbe1 hok => by
    have he : jEv w S pc g T := jEv_fr (fun a b hab => hF.1 a b (by omega)) he0
    obtain ⟨e1, e2, e3, e4, e5, e6, e7, e8, e9⟩ := id he
    have hlw : jTl w l := fun f hf => by rw [hF.1 125 f (by decide)]; exact hl f hf
    have hcd := jCd_lt h5
    have e9s := (e9 s hs)
    have hl1 : -1000 ≤ (w.1 126 (s + 1)).toInt ∧ (w.1 126 (s + 1)).toInt ≤ 1000 := by
      by_cases e : s + 1 = S
      · rw [e, e8]; omega
      · have := e9 (s + 1) (by omega)
        omega
    refine wk_aload_n xd_77c3e74d rfl ?_
    refine wk_getR xf_4a6d25d4 xd_aa105bc1 ?_
    refine wk_iload_n xd_068f59ad rfl ?_
    refine wk_aload_n xd_805f1ac4 rfl ?_
    refine wk_getI xf_4a8370b8 xd_0946aeb1 ?_
    refine wk_bipush xd_3113ba78 ?_
    refine aw_imul (a := (T : Int)) (b := (32 : Int)) (e := (32 * T : Int)) xd_9b2418db (show ((w.1 121 10)).toInt = (T : Int) from e3) (show (((Int8.ofInt 32).toInt32)).toInt = 32 from by decide) (by omega) (by omega) (by omega) (fun v1_ p1_ => ?_)
    refine wk_iload xd_deec885f rfl ?_
    refine aw_iadd (a := (32 * T : Int)) (b := ((be).toInt : Int)) (e := (32 * T + (be).toInt : Int)) xd_e606649d p1_ rfl (by omega) (by omega) (by omega) (fun v2_ p2_ => ?_)
    refine aw_iastore (i := ((jCd l) + 1296 * s)) xf_095f7f0d hc3 (by omega) (by omega) xd_bbf2e2d3 ?_
    have hG3_ : sv_w sg (cm_u1 w 127 ((jCd l) + 1296 * s) v2_) := sv_w_u1 hG (by rw [aw_tv2 xf_8d18375d]; exact sv_in_top _)
    refine wk_iload xd_26a22d14 rfl ?_
    exact wk_ireturn xd_91ec9677 xr_466c3e91 rfl (hkq be _ (jput hs (jEv_fr (fun a b hab => hF.1 a b (by omega)) he0) h5 hF hno hbe0 hbe1 hok (p2_.trans (by omega))) (by rw [← hF.1 126 s (by decide)]; exact hbe0) hbe1)
  intro n
  induction n with
  | zero =>
    intro k be z w hi hz hF hG hno hbe0 hbe1 hok
    have he : jEv w S pc g T := jEv_fr (fun a b hab => hF.1 a b (by omega)) he0
    obtain ⟨e1, e2, e3, e4, e5, e6, e7, e8, e9⟩ := id he
    have hlw : jTl w l := fun f hf => by rw [hF.1 125 f (by decide)]; exact hl f hf
    have hcd := jCd_lt h5
    have e9s := (e9 s hs)
    have hl1 : -1000 ≤ (w.1 126 (s + 1)).toInt ∧ (w.1 126 (s + 1)).toInt ≤ 1000 := by
      by_cases e : s + 1 = S
      · rw [e, e8]; omega
      · have := e9 (s + 1) (by omega)
        omega
    refine wk_iload xd_c8f95242 rfl ?_
    refine wk_iload_n xd_e9ddaaa5 rfl ?_
    refine wk_icmp xd_0a9f50fd (t := 106) rfl (fun h57_0 => ?_) (fun h57_0 => ?_)
    · have h57_0 := aw_ge_t (a := ((k : Int) : Int)) (b := ((pc : Int) : Int)) hz hpv h57_0
      exact out be z w trivial hF hG hno hbe0 hbe1 hok
    · have h57_0 := aw_ge_f (a := ((k : Int) : Int)) (b := ((pc : Int) : Int)) hz hpv h57_0
      exfalso
      omega
  | succ n ih =>
    intro k be z w hi hz hF hG hno hbe0 hbe1 hok
    have he : jEv w S pc g T := jEv_fr (fun a b hab => hF.1 a b (by omega)) he0
    obtain ⟨e1, e2, e3, e4, e5, e6, e7, e8, e9⟩ := id he
    have hlw : jTl w l := fun f hf => by rw [hF.1 125 f (by decide)]; exact hl f hf
    have hcd := jCd_lt h5
    have e9s := (e9 s hs)
    have hl1 : -1000 ≤ (w.1 126 (s + 1)).toInt ∧ (w.1 126 (s + 1)).toInt ≤ 1000 := by
      by_cases e : s + 1 = S
      · rw [e, e8]; omega
      · have := e9 (s + 1) (by omega)
        omega
    refine wk_iload xd_c8f95242 rfl ?_
    refine wk_iload_n xd_e9ddaaa5 rfl ?_
    refine wk_icmp xd_0a9f50fd (t := 106) rfl (fun h57_1 => ?_) (fun h57_1 => ?_)
    · have h57_1 := aw_ge_t (a := ((k : Int) : Int)) (b := ((pc : Int) : Int)) hz hpv h57_1
      exfalso
      omega
    · have h57_1 := aw_ge_f (a := ((k : Int) : Int)) (b := ((pc : Int) : Int)) hz hpv h57_1
      refine wk_iload xd_de18d209 rfl ?_
      refine wk_aload_n xd_915c2213 rfl ?_
      refine wk_getR xf_d6c847f0 xd_2286816b ?_
      refine wk_iload_n xd_f663795d rfl ?_
      refine aw_iaload (i := s) xf_79fd7716 hq (by omega) (by omega) xd_da28824a ?_
      refine wk_icmp xd_0401a7ff (t := 106) rfl (fun h68_2 => ?_) (fun h68_2 => ?_)
      · have h68_2 := aw_le_t (a := ((be).toInt : Int)) (b := ((w.1 126 s).toInt : Int)) rfl rfl h68_2
        exact out be z w trivial hF hG hno hbe0 hbe1 hok
      · have h68_2 := aw_le_f (a := ((be).toInt : Int)) (b := ((w.1 126 s).toInt : Int)) rfl rfl h68_2
        refine wk_aload_n xd_669c7e09 rfl ?_
        refine wk_iload_n xd_771abde9 rfl ?_
        refine wk_iload xd_8f4e1d9a rfl ?_
        refine wk_iload xd_441331ec rfl ?_
        refine wk_iconst xd_2de58ec3 ?_
        refine aw_isub (a := ((be).toInt : Int)) (b := (1 : Int)) (e := ((be).toInt + (-1) : Int)) xd_78872488 rfl (show ((Int32.ofInt 1)).toInt = 1 from by decide) (by omega) (by omega) (by omega) (fun v4_ p4_ => ?_)
        obtain ⟨xc, hCc, hxc⟩ := jct_ok (w := w) (q := q) (kk := z) (mo := v4_) (s := s) (k := k) (g := g) (m := ((be).toInt + (-1) : Int)) (l := l) hq hz p4_ (by omega) (by omega) e2 hlw ⟨by rw [show 1 + s = s + 1 from by omega]; omega, by rw [show 1 + s = s + 1 from by omega]; omega⟩
        refine wk_call (kd := 0) (i := 107) xd_16d99c6b rfl (wk_cal (as := [.inr (.inr (some 121)), .inl q, .inl z, .inl v4_]) (t := []) xl_a78475d0 rfl xn_c7b9efad xc_68402cf9 rfl rfl xv_9a9f065d rfl) (cm_C_mono (by omega) hCc) ?_
        refine wk_if xd_df39d4d7 (t := 100) rfl (fun h82_4 => ?_) (fun h82_4 => ?_)
        · have h82_4 := aw_eq_t (a := ((xc).toInt : Int)) (b := (0 : Int)) rfl hb_z h82_4
          refine aw_iinc (a := ((k : Int) : Int)) (b := (1 : Int)) (e := ((k : Int) + 1 : Int)) xd_84b6aa9f (by rw [xm_e3ee456a]; rfl) rfl rfl hz (show ((Int32.ofInt 1)).toInt = 1 from by decide) (by omega) (by omega) (by omega) (fun v6_ p6_ => ?_)
          refine wk_goto xd_259d1156 (t := 54) rfl ?_
          exact ih (k + 1) _ _ w (by omega) (by rw [p6_]; omega) hF hG hno hbe0 hbe1 hok
        · have h82_4 := aw_eq_f (a := ((xc).toInt : Int)) (b := (0 : Int)) rfl hb_z h82_4
          refine wk_iload xd_988929ac rfl ?_
          refine wk_aload_n xd_684307ba rfl ?_
          refine wk_iload_n xd_792026ef rfl ?_
          refine wk_iload xd_92e20dd1 rfl ?_
          refine wk_iload_n xd_246f90ea rfl ?_
          obtain ⟨d1, d2, d3⟩ : (w.1 124 (35 * s + k)).toInt = g ∧ (∀ f, f < 4 → jn k f ≤ l f) ∧ jP k + (w.1 126 (s + 1)).toInt ≤ be.toInt - 1 := by
            rcases hxc with ⟨-, h⟩ | ⟨h, -⟩
            · exact ⟨h.1, h.2.1, by have := h.2.2; omega⟩
            · omega
          obtain ⟨xw, w2, hCw, hFw, r, hxr, hRw⟩ := jfw (w := w) hN hFF hs hq hz hpv (by omega) he hlw h5 d2 hF.2.2.2.1 hG
          have hpi := jP_in k
          refine wk_call (kd := 0) (i := 111) xd_9c89e6fe rfl (wk_cal (as := [.inr (.inr (some 121)), .inl q, .inl z, .inl pv]) (t := [.inl be]) xl_b6f6a429 rfl xn_36fdac12 xc_b746bc75 rfl rfl xv_c0ebc5cb rfl) hCw ?_
          refine aw_min (a := ((be).toInt : Int)) (b := ((jP k) + r : Int)) xl_1191afc4 rfl xd_bcab66d6 rfl hxr (fun v7_ p7_ => ?_)
          refine wk_istore xd_9401461f (by rw [xm_e3ee456a]; rfl) rfl ?_
          refine aw_iinc (a := ((k : Int) : Int)) (b := (1 : Int)) (e := ((k : Int) + 1 : Int)) xd_84b6aa9f (by rw [xm_e3ee456a]; rfl) rfl rfl hz (show ((Int32.ofInt 1)).toInt = 1 from by decide) (by omega) (by omega) (by omega) (fun v8_ p8_ => ?_)
          refine wk_goto xd_259d1156 (t := 54) rfl ?_
          have he2 : jEv w2 S pc g T := jEv_fr (fun a b hab => hFw.1 a b (by omega)) he
          have hr0 : 0 ≤ r ∧ (w.1 126 (s + 1)).toInt ≤ r := by
            rcases hRw with ⟨h1, h2⟩ | ⟨h1, h2, h3, h4, h5⟩
            · rw [h1, e8]; omega
            · omega
          have hlf := (he.2.2.2.2.2.2.2.2 s hs).2.2 k (by omega) d1
          have hF2 : jFp w0 w2 S pc g T (s + 1) := ⟨fun a b hab => (hFw.1 a b hab).trans (hF.1 a b hab), fun i hi => (hFw.2.1 i hi).trans (hF.2.1 i hi), fun s' l' v' a1 a2 a3 a4 a5 => hFw.2.2.1 s' l' v' a1 a2 a3 a4 (hF.2.2.1 s' l' v' a1 a2 a3 a4 a5), hFw.2.2.2.1, hFw.2.2.2.2⟩
          have hno2 : (w2.1 127 (jCd l + 1296 * s)).toInt / 32 ≠ T := by
            rw [hFw.2.1 _ (by omega)]
            exact hno
          refine ih (k + 1) _ _ w2 (by omega) (by rw [p8_]; omega) hF2 hFw.2.2.2.2 hno2 (by rw [hFw.1 126 s (by decide)]; omega) (by omega) ?_
          rcases p7_ with ⟨h1, -⟩ | ⟨h1, h2⟩
          · rw [h1]
            exact jOk_mo hs h5 hbe1 he (fun a b hab => hFw.1 a b (by omega)) (fun l' v' a b c d e => hFw.2.2.1 _ l' v' a b c d e) hok
          · rw [h1]
            refine .inr ⟨k, by omega, by rw [hFw.1 124 _ (by decide)]; exact d1, d2, by rw [hFw.1 126 _ (by decide)]; omega, ?_⟩
            rcases hRw with ⟨h3, h4⟩ | ⟨h3, h4, h5', h6, h7⟩
            · exact .inl ⟨h3, by omega⟩
            · refine .inr ⟨h3, ?_⟩
              rw [show jP k + r - jP k = r from by omega]
              exact h6
theorem jff_b {S pc : Nat} {g T : Int} {s : Nat} (hs : s = S) : jFF 2 S pc g T s := by
  intro w q pv l hq hpv he hl h5 hm hG
  obtain ⟨e1, e2, e3, e4, e5, e6, e7, e8, e9⟩ := id he
  have h : ∃ o, cm_C (1 + 1) 221 [.inr (.inr (some 121)), .inl q, .inl pv] w o ∧ (fun o : cm_O => ∃ x w', o = (some (.inl x), w') ∧ jFp w w' S pc g T s ∧ jRs w' S T s l x.toInt (w.1 126 s).toInt) o := by
    refine wk_entry (by rw [xm_e3ee456a]; exact Nat.le_of_ble_eq_true rfl) ?_
    rw [show cm_ent 221 [.inr (.inr (some 121)), .inl q, .inl pv] = [some (.inr (.inr (some 121))), some (.inl q), some (.inl pv), none, none, none] from by unfold cm_ent; rw [xm_e3ee456a]; rfl]
    refine wk_iload_n xd_67438265 rfl ?_
    refine wk_aload_n xd_9b53926c rfl ?_
    refine wk_getI xf_52655d5f xd_47a75beb ?_
    refine wk_icmp xd_3e7a4951 (t := 10) rfl (fun h5_0 => ?_) (fun h5_0 => ?_)
    · have h5_0 := aw_lt_t (a := ((s : Int) : Int)) (b := ((S : Int) : Int)) hq (show ((w.1 121 3)).toInt = ((S : Int) : Int) from e1) h5_0
      exfalso
      omega
    · have h5_0 := aw_lt_f (a := ((s : Int) : Int)) (b := ((S : Int) : Int)) hq (show ((w.1 121 3)).toInt = ((S : Int) : Int) from e1) h5_0
      refine wk_iconst xd_610aa029 ?_
      exact wk_ireturn xd_40fcdeee xr_466c3e91 rfl ⟨_, w, rfl, ⟨fun _ _ _ => rfl, fun _ _ => rfl, fun _ _ _ _ _ _ _ h => h, hm, hG⟩, .inl ⟨by omega, by decide⟩⟩
  obtain ⟨o, hC, x, w', rfl, a⟩ := h
  exact ⟨x, w', hC, a⟩
theorem jff_s {N S pc : Nat} {g T : Int} {s : Nat} (hN : 2 ≤ N) (hs : s < S) (hFF : jFF N S pc g T (s + 1)) : jFF (N + 2) S pc g T s := by
  intro w q pv l hq hpv he hl h5 hm hG
  obtain ⟨e1, e2, e3, e4, e5, e6, e7, e8, e9⟩ := id he
  have hcd := jCd_lt h5
  have e9s := e9 s hs
  have h : ∃ o, cm_C ((N + 1) + 1) 221 [.inr (.inr (some 121)), .inl q, .inl pv] w o ∧ (fun o : cm_O => ∃ x w', o = (some (.inl x), w') ∧ jFp w w' S pc g T s ∧ jRs w' S T s l x.toInt (w.1 126 s).toInt) o := by
    refine wk_entry (by rw [xm_e3ee456a]; exact Nat.le_of_ble_eq_true rfl) ?_
    rw [show cm_ent 221 [.inr (.inr (some 121)), .inl q, .inl pv] = [some (.inr (.inr (some 121))), some (.inl q), some (.inl pv), none, none, none] from by unfold cm_ent; rw [xm_e3ee456a]; rfl]
    refine wk_iload_n xd_67438265 rfl ?_
    refine wk_aload_n xd_9b53926c rfl ?_
    refine wk_getI xf_52655d5f xd_47a75beb ?_
    refine wk_icmp xd_3e7a4951 (t := 10) rfl (fun h5_0 => ?_) (fun h5_0 => ?_)
    · have h5_0 := aw_lt_t (a := ((s : Int) : Int)) (b := ((S : Int) : Int)) hq (show ((w.1 121 3)).toInt = ((S : Int) : Int) from e1) h5_0
      refine wk_iload_n xd_2ab13c50 rfl ?_
      refine wk_sipush xd_77aaa3e4 ?_
      refine aw_imul (a := ((s : Int) : Int)) (b := (1296 : Int)) (e := (1296 * (s : Int) : Int)) xd_71730f63 hq (show (((Int16.ofInt 1296).toInt32)).toInt = 1296 from by decide) (by omega) (by omega) (by omega) (fun v2_ p2_ => ?_)
      refine wk_aload_n xd_d6fd8dca rfl ?_
      obtain ⟨xs, hCs, hxs⟩ := jsc_ok (w := w) hl h5
      refine wk_call (kd := 0) (i := 104) xd_47be2d3b rfl (wk_cal (as := [.inr (.inr (some 121))]) (t := [.inl v2_]) xl_74df6e49 rfl xn_8e77d7ed xc_e4897842 rfl rfl xv_2dd316f4 rfl) (cm_C_mono (by omega) hCs) ?_
      refine aw_iadd (a := (1296 * (s : Int) : Int)) (b := (((jCd l) : Int) : Int)) (e := (1296 * (s : Int) + ((jCd l) : Int) : Int)) xd_bd823003 p2_ hxs (by omega) (by omega) (by omega) (fun v3_ p3_ => ?_)
      refine wk_istore_n xd_4178e98e (by rw [xm_e3ee456a]; rfl) rfl ?_
      refine wk_aload_n xd_8ebf8571 rfl ?_
      refine wk_getR xf_4a6d25d4 xd_ea39fd6b ?_
      refine wk_iload_n xd_93408d5f rfl ?_
      have hmb := hm.1 (jCd l + 1296 * s) (by omega)
      refine aw_iaload (i := ((jCd l) + 1296 * s)) xf_095f7f0d p3_ (by omega) (by omega) xd_adb6bdb7 ?_
      refine wk_bipush xd_d265f624 ?_
      refine aw_idiv (a := ((w.1 127 ((jCd l) + 1296 * s)).toInt : Int)) (b := (32 : Int)) xd_ea524e31 rfl (show (((Int8.ofInt 32).toInt32)).toInt = 32 from by decide) (by omega) (by omega) (fun v4_ p4_ => ?_)
      refine wk_aload_n xd_94e90a82 rfl ?_
      refine wk_getI xf_4a8370b8 xd_22b464bd ?_
      refine wk_icmp xd_2ffeb80a (t := 47) rfl (fun h34_4 => ?_) (fun h34_4 => ?_)
      · have h34_4 := aw_ne_t (a := ((v4_).toInt : Int)) (b := (T : Int)) rfl (show ((w.1 121 10)).toInt = (T : Int) from e3) h34_4
        refine wk_bipush xd_25f8dea4 ?_
        refine wk_istore xd_18bf2abe (by rw [xm_e3ee456a]; rfl) rfl ?_
        refine wk_iconst xd_8fe22e1a ?_
        refine wk_istore xd_3e97629a (by rw [xm_e3ee456a]; rfl) rfl ?_
        exact jff_l hN hFF hs hq hpv (p3_.trans (by omega)) he hl h5 _ (fun be w' h1 h2 h3 => ⟨be, w', rfl, h1.1, .inr ⟨hs, by omega, h3, h1.2, h2⟩⟩) pc 0 _ _ w (by omega) (by decide) ⟨fun _ _ _ => rfl, fun _ _ => rfl, fun _ _ _ _ _ _ _ h => h, hm, hG⟩ hG (by omega) (show (w.1 126 s).toInt ≤ ((Int8.ofInt 31).toInt32).toInt from (by rw [show ((Int8.ofInt 31).toInt32).toInt = 31 from by decide]; omega)) (by decide) (.inl (by decide))
      · have h34_4 := aw_ne_f (a := ((v4_).toInt : Int)) (b := (T : Int)) rfl (show ((w.1 121 10)).toInt = (T : Int) from e3) h34_4
        refine wk_aload_n xd_e250922c rfl ?_
        refine wk_getR xf_4a6d25d4 xd_b149ee16 ?_
        refine wk_iload_n xd_23217e9c rfl ?_
        refine aw_iaload (i := ((jCd l) + 1296 * s)) xf_095f7f0d p3_ (by omega) (by omega) xd_15665328 ?_
        refine wk_bipush xd_620405e7 ?_
        refine aw_irem (a := ((w.1 127 ((jCd l) + 1296 * s)).toInt : Int)) (b := (32 : Int)) xd_0f8bf334 rfl (show (((Int8.ofInt 32).toInt32)).toInt = 32 from by decide) (by omega) (by omega) (fun v6_ p6_ => ?_)
        have hst : jSt w T s l v6_.toInt := by
          unfold jSt
          omega
        exact wk_ireturn xd_4706a0ea xr_466c3e91 rfl ⟨_, w, rfl, ⟨fun _ _ _ => rfl, fun _ _ => rfl, fun _ _ _ _ _ _ _ h => h, hm, hG⟩, .inr ⟨hs, by omega, by omega, hst, (hm.2 s hs l h5 _ (by omega) (by omega) hst).1⟩⟩
    · have h5_0 := aw_lt_f (a := ((s : Int) : Int)) (b := ((S : Int) : Int)) hq (show ((w.1 121 3)).toInt = ((S : Int) : Int) from e1) h5_0
      exfalso
      omega
  obtain ⟨o, hC, x, w', rfl, a⟩ := h
  exact ⟨x, w', hC, a⟩
theorem jff_all {S pc : Nat} {g T : Int} : ∀ (m s : Nat), s + m = S → jFF (2 + 2 * m) S pc g T s
  | 0, s, h => jff_b (by omega)
  | m + 1, s, h => by
    have e : jFF (2 + 2 * m) S pc g T (s + 1) := jff_all m (s + 1) (by omega)
    exact jff_s (N := 2 + 2 * m) (by omega) (by omega) e
theorem jFF_mo {N N' S pc : Nat} {g T : Int} {s : Nat} (h : N ≤ N') (hf : jFF N S pc g T s) : jFF N' S pc g T s := fun w q pv l a b c d e f i => by
  obtain ⟨x, w', h1, h2⟩ := hf w q pv l a b c d e f i
  exact ⟨x, w', cm_C_mono h h1, h2⟩
/-- fewestFrom ends, at every seat -/
theorem jff_ok {S pc : Nat} {g T : Int} (hS : S ≤ 6) (s : Nat) (hs : s ≤ S) : jFF 14 S pc g T s := jFF_mo (by omega) (jff_all (S - s) s (by omega))

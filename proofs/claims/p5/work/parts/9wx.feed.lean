set_option maxRecDepth 100000 in
theorem xd_4cde3eb5 : decode (ia_code 36) 0 = .ok (.bipush 24, 2) := fdd_d (by decide +kernel)
set_option maxRecDepth 100000 in
theorem xd_6383cbf5 : decode (ia_code 36) 2 = .ok (.istore_n 2, 1) := fdd_d (by decide +kernel)
set_option maxRecDepth 100000 in
theorem xm_3b7150e6 : ia_maxL 36 = 3 := by decide +kernel
set_option maxRecDepth 100000 in
theorem xd_eff4a0af : decode (ia_code 36) 3 = .ok (.iload_n 2, 1) := fdd_d (by decide +kernel)
set_option maxRecDepth 100000 in
theorem xd_f8749a7c : decode (ia_code 36) 4 = .ok (.ifCond .lt 35, 3) := fdd_d (by decide +kernel)
set_option maxRecDepth 100000 in
theorem xd_cf6b8131 : decode (ia_code 36) 7 = .ok (.aload_n 0, 1) := fdd_d (by decide +kernel)
set_option maxRecDepth 100000 in
theorem xd_f91b0b1a : decode (ia_code 36) 8 = .ok (.getfield 9, 3) := fdd_d (by decide +kernel)
set_option maxRecDepth 100000 in
theorem xf_96445c91 : wk_gf 36 9 0 0 (1 + 3) = true := by decide +kernel
set_option maxRecDepth 100000 in
theorem xd_73126b53 : decode (ia_code 36) 11 = .ok (.aload_n 0, 1) := fdd_d (by decide +kernel)
set_option maxRecDepth 100000 in
theorem xd_8109abb6 : decode (ia_code 36) 12 = .ok (.getfield 105, 3) := fdd_d (by decide +kernel)
set_option maxRecDepth 100000 in
theorem xf_4e24c27f : wk_gf 36 105 0 1 0 = true := by decide +kernel
set_option maxRecDepth 100000 in
theorem xd_142d301d : decode (ia_code 36) 15 = .ok (.iload_n 1, 1) := fdd_d (by decide +kernel)
set_option maxRecDepth 100000 in
theorem xd_256873f0 : decode (ia_code 36) 16 = .ok (.iload_n 2, 1) := fdd_d (by decide +kernel)
set_option maxRecDepth 100000 in
theorem xd_4cac08bf : decode (ia_code 36) 17 = .ok (.iushr, 1) := fdd_d (by decide +kernel)
set_option maxRecDepth 100000 in
theorem xd_528f309d : decode (ia_code 36) 18 = .ok (.sipush 255, 3) := fdd_d (by decide +kernel)
set_option maxRecDepth 100000 in
theorem xd_ec0cd528 : decode (ia_code 36) 21 = .ok (.iand, 1) := fdd_d (by decide +kernel)
set_option maxRecDepth 100000 in
theorem xd_14862326 : decode (ia_code 36) 22 = .ok (.iastore, 1) := fdd_d (by decide +kernel)
set_option maxRecDepth 100000 in
theorem xd_c69a1192 : decode (ia_code 36) 23 = .ok (.aload_n 0, 1) := fdd_d (by decide +kernel)
set_option maxRecDepth 100000 in
theorem xd_a5aca81c : decode (ia_code 36) 24 = .ok (.dup, 1) := fdd_d (by decide +kernel)
set_option maxRecDepth 100000 in
theorem xd_ea5efd53 : decode (ia_code 36) 25 = .ok (.getfield 105, 3) := fdd_d (by decide +kernel)
set_option maxRecDepth 100000 in
theorem xd_d3a2bce3 : decode (ia_code 36) 28 = .ok (.iconst 1, 1) := fdd_d (by decide +kernel)
set_option maxRecDepth 100000 in
theorem xd_5ac65842 : decode (ia_code 36) 29 = .ok (.iadd, 1) := fdd_d (by decide +kernel)
set_option maxRecDepth 100000 in
theorem xd_16e78fff : decode (ia_code 36) 30 = .ok (.putfield 105, 3) := fdd_d (by decide +kernel)
set_option maxRecDepth 100000 in
theorem xf_820ab67e : wk_pf 36 105 0 1 0 = true := by decide +kernel
set_option maxRecDepth 100000 in
theorem xd_fa9cef86 : decode (ia_code 36) 33 = .ok (.iinc 2 (-8), 3) := fdd_d (by decide +kernel)
set_option maxRecDepth 100000 in
theorem xd_f2f70a03 : decode (ia_code 36) 36 = .ok (.goto (-33), 3) := fdd_d (by decide +kernel)
set_option maxRecDepth 100000 in
theorem xd_e839dd18 : decode (ia_code 36) 39 = .ok (.return_, 1) := fdd_d (by decide +kernel)
set_option maxRecDepth 100000 in
theorem xr_5576a2cf : ia_ret 36 = none := by decide +kernel
set_option maxRecDepth 100000 in
theorem xd_1534b386 : decode (ia_code 107) 0 = .ok (.bipush 24, 2) := fdd_d (by decide +kernel)
set_option maxRecDepth 100000 in
theorem xd_dc0a406e : decode (ia_code 107) 2 = .ok (.istore_n 2, 1) := fdd_d (by decide +kernel)
set_option maxRecDepth 100000 in
theorem xm_60e4ffd3 : ia_maxL 107 = 3 := by decide +kernel
set_option maxRecDepth 100000 in
theorem xd_b61e2d9c : decode (ia_code 107) 3 = .ok (.iload_n 2, 1) := fdd_d (by decide +kernel)
set_option maxRecDepth 100000 in
theorem xd_f7016bc6 : decode (ia_code 107) 4 = .ok (.ifCond .lt 32, 3) := fdd_d (by decide +kernel)
set_option maxRecDepth 100000 in
theorem xd_96810c02 : decode (ia_code 107) 7 = .ok (.aload_n 0, 1) := fdd_d (by decide +kernel)
set_option maxRecDepth 100000 in
theorem xd_521150b3 : decode (ia_code 107) 8 = .ok (.getfield 14, 3) := fdd_d (by decide +kernel)
set_option maxRecDepth 100000 in
theorem xf_beafe1a7 : wk_gf 107 14 184 1 (185 + 3) = true := by decide +kernel
set_option maxRecDepth 100000 in
theorem xd_cc9be0c8 : decode (ia_code 107) 11 = .ok (.aload_n 0, 1) := fdd_d (by decide +kernel)
set_option maxRecDepth 100000 in
theorem xd_3942ad43 : decode (ia_code 107) 12 = .ok (.getfield 7, 3) := fdd_d (by decide +kernel)
set_option maxRecDepth 100000 in
theorem xf_8196ad61 : wk_gf 107 7 184 2 0 = true := by decide +kernel
set_option maxRecDepth 100000 in
theorem xd_aba4bb86 : decode (ia_code 107) 15 = .ok (.iload_n 1, 1) := fdd_d (by decide +kernel)
set_option maxRecDepth 100000 in
theorem xd_9ae1f86b : decode (ia_code 107) 16 = .ok (.iload_n 2, 1) := fdd_d (by decide +kernel)
set_option maxRecDepth 100000 in
theorem xd_0bf52d75 : decode (ia_code 107) 17 = .ok (.ishr, 1) := fdd_d (by decide +kernel)
set_option maxRecDepth 100000 in
theorem xd_0bd3ecce : decode (ia_code 107) 18 = .ok (.i2b, 1) := fdd_d (by decide +kernel)
set_option maxRecDepth 100000 in
theorem xd_0983a6cb : decode (ia_code 107) 19 = .ok (.bastore, 1) := fdd_d (by decide +kernel)
set_option maxRecDepth 100000 in
theorem xd_0ff6a334 : decode (ia_code 107) 20 = .ok (.aload_n 0, 1) := fdd_d (by decide +kernel)
set_option maxRecDepth 100000 in
theorem xd_e9492a87 : decode (ia_code 107) 21 = .ok (.dup, 1) := fdd_d (by decide +kernel)
set_option maxRecDepth 100000 in
theorem xd_0caf1b10 : decode (ia_code 107) 22 = .ok (.getfield 7, 3) := fdd_d (by decide +kernel)
set_option maxRecDepth 100000 in
theorem xd_7882e010 : decode (ia_code 107) 25 = .ok (.iconst 1, 1) := fdd_d (by decide +kernel)
set_option maxRecDepth 100000 in
theorem xd_2fd23283 : decode (ia_code 107) 26 = .ok (.iadd, 1) := fdd_d (by decide +kernel)
set_option maxRecDepth 100000 in
theorem xd_53f4d01e : decode (ia_code 107) 27 = .ok (.putfield 7, 3) := fdd_d (by decide +kernel)
set_option maxRecDepth 100000 in
theorem xf_f65db383 : wk_pf 107 7 184 2 0 = true := by decide +kernel
set_option maxRecDepth 100000 in
theorem xd_27aeef25 : decode (ia_code 107) 30 = .ok (.iinc 2 (-8), 3) := fdd_d (by decide +kernel)
set_option maxRecDepth 100000 in
theorem xd_fb224092 : decode (ia_code 107) 33 = .ok (.goto (-30), 3) := fdd_d (by decide +kernel)
set_option maxRecDepth 100000 in
theorem xd_fd9c764a : decode (ia_code 107) 36 = .ok (.return_, 1) := fdd_d (by decide +kernel)
set_option maxRecDepth 100000 in
theorem xr_e1cd9ca6 : ia_ret 107 = none := by decide +kernel
set_option maxRecDepth 100000 in
theorem xd_a9431f54 : decode (ia_code 13) 0 = .ok (.aload_n 0, 1) := fdd_d (by decide +kernel)
set_option maxRecDepth 100000 in
theorem xd_c6332b16 : decode (ia_code 13) 1 = .ok (.getfield 105, 3) := fdd_d (by decide +kernel)
set_option maxRecDepth 100000 in
theorem xf_de6aa569 : wk_gf 13 105 0 1 0 = true := by decide +kernel
set_option maxRecDepth 100000 in
theorem xd_a9933f2d : decode (ia_code 13) 4 = .ok (.bipush 20, 2) := fdd_d (by decide +kernel)
set_option maxRecDepth 100000 in
theorem xd_2f879ba2 : decode (ia_code 13) 6 = .ok (.iadd, 1) := fdd_d (by decide +kernel)
set_option maxRecDepth 100000 in
theorem xd_afba928b : decode (ia_code 13) 7 = .ok (.sipush 940, 3) := fdd_d (by decide +kernel)
set_option maxRecDepth 100000 in
theorem xd_a84d5c09 : decode (ia_code 13) 10 = .ok (.if_icmp .le 5, 3) := fdd_d (by decide +kernel)
set_option maxRecDepth 100000 in
theorem xd_7fe840fe : decode (ia_code 13) 15 = .ok (.aload_n 0, 1) := fdd_d (by decide +kernel)
set_option maxRecDepth 100000 in
theorem xd_6e6e831e : decode (ia_code 13) 16 = .ok (.iload_n 1, 1) := fdd_d (by decide +kernel)
set_option maxRecDepth 100000 in
theorem xl_6f693c82 : ia_pl (ia_cls 13) 109 = some (1, 36, 0, 0, 695) := by decide +kernel
set_option maxRecDepth 100000 in
theorem xn_2d6b53be : ia_na 36 = 2 := by decide +kernel
set_option maxRecDepth 100000 in
theorem xc_01239ddd : ia_mc 36 = 0 ∧ ia_ms 36 = 0 := ⟨by decide +kernel, by decide +kernel⟩
set_option maxRecDepth 100000 in
theorem xv_9544886d : cm_rcv 36 [.inr (.inr (some 0))] = true := by decide +kernel
set_option maxRecDepth 100000 in
theorem xd_33a8cc58 : decode (ia_code 13) 17 = .ok (.invokevirtual 109, 3) := fdd_d (by decide +kernel)
set_option maxRecDepth 100000 in
theorem xd_bcd9a291 : decode (ia_code 13) 20 = .ok (.aload_n 0, 1) := fdd_d (by decide +kernel)
set_option maxRecDepth 100000 in
theorem xd_0769c848 : decode (ia_code 13) 21 = .ok (.iload_n 2, 1) := fdd_d (by decide +kernel)
set_option maxRecDepth 100000 in
theorem xd_cfcf8f72 : decode (ia_code 13) 22 = .ok (.invokevirtual 109, 3) := fdd_d (by decide +kernel)
set_option maxRecDepth 100000 in
theorem xd_27f6e9d6 : decode (ia_code 13) 25 = .ok (.aload_n 0, 1) := fdd_d (by decide +kernel)
set_option maxRecDepth 100000 in
theorem xd_4cb07956 : decode (ia_code 13) 26 = .ok (.iload_n 3, 1) := fdd_d (by decide +kernel)
set_option maxRecDepth 100000 in
theorem xd_fab7c4e7 : decode (ia_code 13) 27 = .ok (.invokevirtual 109, 3) := fdd_d (by decide +kernel)
set_option maxRecDepth 100000 in
theorem xd_3dfcc7b6 : decode (ia_code 13) 30 = .ok (.aload_n 0, 1) := fdd_d (by decide +kernel)
set_option maxRecDepth 100000 in
theorem xd_d58219bb : decode (ia_code 13) 31 = .ok (.iload 4, 2) := fdd_d (by decide +kernel)
set_option maxRecDepth 100000 in
theorem xd_30f26209 : decode (ia_code 13) 33 = .ok (.invokevirtual 109, 3) := fdd_d (by decide +kernel)
set_option maxRecDepth 100000 in
theorem xd_d036b5cc : decode (ia_code 13) 36 = .ok (.aload_n 0, 1) := fdd_d (by decide +kernel)
set_option maxRecDepth 100000 in
theorem xd_1edf35cd : decode (ia_code 13) 37 = .ok (.iload 5, 2) := fdd_d (by decide +kernel)
set_option maxRecDepth 100000 in
theorem xd_5a02f523 : decode (ia_code 13) 39 = .ok (.invokevirtual 109, 3) := fdd_d (by decide +kernel)
set_option maxRecDepth 100000 in
theorem xd_e1722328 : decode (ia_code 13) 42 = .ok (.aload_n 0, 1) := fdd_d (by decide +kernel)
set_option maxRecDepth 100000 in
theorem xd_b9f5c3af : decode (ia_code 13) 43 = .ok (.getfield 105, 3) := fdd_d (by decide +kernel)
set_option maxRecDepth 100000 in
theorem xd_98cf1f06 : decode (ia_code 13) 46 = .ok (.ireturn, 1) := fdd_d (by decide +kernel)
set_option maxRecDepth 100000 in
theorem xr_27afd8c5 : ia_ret 13 = some .int := by decide +kernel
set_option maxRecDepth 100000 in
theorem xm_ce338a12 : ia_maxL 13 = 6 := by decide +kernel
set_option maxRecDepth 100000 in
theorem xd_f572dfc3 : decode (ia_code 105) 0 = .ok (.aload_n 0, 1) := fdd_d (by decide +kernel)
set_option maxRecDepth 100000 in
theorem xd_9202cebe : decode (ia_code 105) 1 = .ok (.iconst 0, 1) := fdd_d (by decide +kernel)
set_option maxRecDepth 100000 in
theorem xd_17b43d05 : decode (ia_code 105) 2 = .ok (.putfield 1, 3) := fdd_d (by decide +kernel)
set_option maxRecDepth 100000 in
theorem xf_a4ed61d9 : wk_pf 105 1 184 0 0 = true := by decide +kernel
set_option maxRecDepth 100000 in
theorem xd_6e5d9484 : decode (ia_code 105) 5 = .ok (.aload_n 0, 1) := fdd_d (by decide +kernel)
set_option maxRecDepth 100000 in
theorem xd_468a668c : decode (ia_code 105) 6 = .ok (.getfield 7, 3) := fdd_d (by decide +kernel)
set_option maxRecDepth 100000 in
theorem xf_8442c6e2 : wk_gf 105 7 184 2 0 = true := by decide +kernel
set_option maxRecDepth 100000 in
theorem xd_6e34f7db : decode (ia_code 105) 9 = .ok (.bipush 20, 2) := fdd_d (by decide +kernel)
set_option maxRecDepth 100000 in
theorem xd_43fa77ce : decode (ia_code 105) 11 = .ok (.iadd, 1) := fdd_d (by decide +kernel)
set_option maxRecDepth 100000 in
theorem xd_3c0bf17e : decode (ia_code 105) 12 = .ok (.sipush 940, 3) := fdd_d (by decide +kernel)
set_option maxRecDepth 100000 in
theorem xd_814ca4f4 : decode (ia_code 105) 15 = .ok (.if_icmp .le 5, 3) := fdd_d (by decide +kernel)
set_option maxRecDepth 100000 in
theorem xd_d2ee95b6 : decode (ia_code 105) 20 = .ok (.aload_n 0, 1) := fdd_d (by decide +kernel)
set_option maxRecDepth 100000 in
theorem xd_2efe85bf : decode (ia_code 105) 21 = .ok (.iload_n 1, 1) := fdd_d (by decide +kernel)
set_option maxRecDepth 100000 in
theorem xl_008ae44f : ia_pl (ia_cls 105) 10 = some (1, 107, 0, 0, 1456) := by decide +kernel
set_option maxRecDepth 100000 in
theorem xn_6b5e3dc1 : ia_na 107 = 2 := by decide +kernel
set_option maxRecDepth 100000 in
theorem xc_747fb988 : ia_mc 107 = 0 ∧ ia_ms 107 = 0 := ⟨by decide +kernel, by decide +kernel⟩
set_option maxRecDepth 100000 in
theorem xv_7464cea2 : cm_rcv 107 [.inr (.inr (some 184))] = true := by decide +kernel
set_option maxRecDepth 100000 in
theorem xd_53bda9b9 : decode (ia_code 105) 22 = .ok (.invokevirtual 10, 3) := fdd_d (by decide +kernel)
set_option maxRecDepth 100000 in
theorem xd_49c1def1 : decode (ia_code 105) 25 = .ok (.aload_n 0, 1) := fdd_d (by decide +kernel)
set_option maxRecDepth 100000 in
theorem xd_1fe767c1 : decode (ia_code 105) 26 = .ok (.iload_n 2, 1) := fdd_d (by decide +kernel)
set_option maxRecDepth 100000 in
theorem xd_9e5ec691 : decode (ia_code 105) 27 = .ok (.invokevirtual 10, 3) := fdd_d (by decide +kernel)
set_option maxRecDepth 100000 in
theorem xd_53cbf091 : decode (ia_code 105) 30 = .ok (.aload_n 0, 1) := fdd_d (by decide +kernel)
set_option maxRecDepth 100000 in
theorem xd_d51bb3f8 : decode (ia_code 105) 31 = .ok (.iload_n 3, 1) := fdd_d (by decide +kernel)
set_option maxRecDepth 100000 in
theorem xd_5d5a4168 : decode (ia_code 105) 32 = .ok (.invokevirtual 10, 3) := fdd_d (by decide +kernel)
set_option maxRecDepth 100000 in
theorem xd_c8e4bbd6 : decode (ia_code 105) 35 = .ok (.aload_n 0, 1) := fdd_d (by decide +kernel)
set_option maxRecDepth 100000 in
theorem xd_3ecf0c58 : decode (ia_code 105) 36 = .ok (.iload 4, 2) := fdd_d (by decide +kernel)
set_option maxRecDepth 100000 in
theorem xd_1ded9979 : decode (ia_code 105) 38 = .ok (.invokevirtual 10, 3) := fdd_d (by decide +kernel)
set_option maxRecDepth 100000 in
theorem xd_f9a02d32 : decode (ia_code 105) 41 = .ok (.aload_n 0, 1) := fdd_d (by decide +kernel)
set_option maxRecDepth 100000 in
theorem xd_748f1f13 : decode (ia_code 105) 42 = .ok (.iload 5, 2) := fdd_d (by decide +kernel)
set_option maxRecDepth 100000 in
theorem xd_fcaf916f : decode (ia_code 105) 44 = .ok (.invokevirtual 10, 3) := fdd_d (by decide +kernel)
set_option maxRecDepth 100000 in
theorem xd_146a5f48 : decode (ia_code 105) 47 = .ok (.aload_n 0, 1) := fdd_d (by decide +kernel)
set_option maxRecDepth 100000 in
theorem xd_6f297d3d : decode (ia_code 105) 48 = .ok (.getfield 7, 3) := fdd_d (by decide +kernel)
set_option maxRecDepth 100000 in
theorem xd_64aa6e25 : decode (ia_code 105) 51 = .ok (.ireturn, 1) := fdd_d (by decide +kernel)
set_option maxRecDepth 100000 in
theorem xr_76c6fad3 : ia_ret 105 = some .int := by decide +kernel
set_option maxRecDepth 100000 in
theorem xm_6a4e583c : ia_maxL 105 = 6 := by decide +kernel
/-! ## the bytes that feed puts (wip/p4/gen9vxf.py) -/
/-- eight bits of an int, from the bit s on -/
def fb_b (v : Int32) (s : Nat) : Nat := (v.toBitVec.toNat >>> s) % 256
theorem fb_and (x : Int32) : (x &&& ((Int16.ofInt 255).toInt32)).toInt = ((x.toBitVec.toNat % 256 : Nat) : Int) := by
  have e : (x &&& ((Int16.ofInt 255).toInt32)).toBitVec.toNat = x.toBitVec.toNat % 256 := by
    rw [Int32.toBitVec_and, BitVec.toNat_and]
    exact Nat.and_two_pow_sub_one_eq_mod x.toBitVec.toNat 8
  show (x &&& ((Int16.ofInt 255).toInt32)).toBitVec.toInt = _
  rw [BitVec.toInt_eq_toNat_of_lt (by rw [e]; omega), e]
theorem fb_x {v z : Int32} {s : Nat} (hz : z.toInt = (s : Int)) (hs : s < 32) : ((v.toUInt32 >>> (z.toUInt32 &&& Int32.toUInt32 31)).toInt32 &&& ((Int16.ofInt 255).toInt32)).toInt = (fb_b v s : Int) := by
  rw [fb_and]
  unfold fb_b
  have ez : z.toBitVec.toNat = s := by
    have h1 : z = Int32.ofNat s := Int32.toInt_inj.mp (by rw [Int32.toInt_ofNat_of_lt (by omega)]; exact hz)
    rw [h1]
    show (BitVec.ofNat 32 s).toNat = s
    rw [BitVec.toNat_ofNat]
    omega
  have e2 : (z.toUInt32 &&& Int32.toUInt32 31).toNat = s := by
    show (z.toBitVec &&& (31#32)).toNat = s
    rw [BitVec.toNat_and, ez]
    rw [show (31#32 : BitVec 32).toNat = 2 ^ 5 - 1 from rfl, Nat.and_two_pow_sub_one_eq_mod]
    omega
  have e3 : ((v.toUInt32 >>> (z.toUInt32 &&& Int32.toUInt32 31)).toInt32).toBitVec.toNat = v.toBitVec.toNat >>> s := by
    show (v.toUInt32 >>> (z.toUInt32 &&& Int32.toUInt32 31)).toNat = _
    rw [UInt32.toNat_shiftRight, e2, Nat.mod_eq_of_lt (by omega)]
    rfl
  rw [e3]
theorem fb_m {v z : Int32} {s : Nat} (hz : z.toInt = (s : Int)) (hs : s + 8 ≤ 32) : ((vp_nar .byte ((v >>> (z &&& 31)).toInt8.toInt32)) &&& ((Int16.ofInt 255).toInt32)).toInt = (fb_b v s : Int) := by
  have h1 : z = Int32.ofNat s := Int32.toInt_inj.mp (by rw [Int32.toInt_ofNat_of_lt (by omega)]; exact hz)
  rw [fb_and]
  unfold fb_b
  congr 1
  have e0 : (v >>> (z &&& 31)).toBitVec = v.toBitVec.sshiftRight s := by
    rw [h1, Int32.toBitVec_shiftRight]
    have e9 : ((Int32.ofNat s &&& 31).toBitVec.smod 32).toNat = s := by
      have go : ∀ s, s < 32 → ((Int32.ofNat s &&& 31).toBitVec.smod 32).toNat = s := by decide +kernel
      exact go s (by omega)
    rw [BitVec.sshiftRight_eq']
    rw [e9]
  show ((BitVec.signExtend 32 (BitVec.signExtend 8 (BitVec.signExtend 32 (BitVec.signExtend 8 (v >>> (z &&& 31)).toBitVec)))).toNat) % 256 = _
  rw [e0]
  apply Nat.eq_of_testBit_eq
  intro i
  rw [show (256 : Nat) = 2 ^ 8 from rfl, Nat.testBit_mod_two_pow, Nat.testBit_mod_two_pow, Nat.testBit_shiftRight]
  by_cases hi : i < 8
  · rw [decide_eq_true hi, Bool.true_and, Bool.true_and, BitVec.testBit_toNat, BitVec.testBit_toNat]
    rw [BitVec.getLsbD_signExtend, BitVec.getLsbD_signExtend, BitVec.getLsbD_signExtend, BitVec.getLsbD_signExtend]
    simp only [hi, show i < 32 from by omega, decide_true, Bool.true_and, if_true]
    rw [BitVec.getLsbD_sshiftRight]
    rw [if_pos (show s + i < 32 from by omega), decide_eq_false (show ¬ (32 ≤ i) from by omega)]
    rfl
  · rw [decide_eq_false hi]
    rfl
theorem ax_bastore {C : Nat → List cm_V → cm_W → cm_O → Prop} {y pc : Nat} {lv : cm_L} {st : List cm_V} {w : cm_W} {Q : cm_O → Prop} {n len i : Nat} {x z : Int32} {e : Int} {g : Int32 → Int32} (hg : wk_ar n 52 len = true) (hx : x.toInt = e) (he : e = (i : Int)) (hl : i < len) (hd : decode (ia_code y) pc = .ok (.bastore, 1)) (hi : cm_do y pc .bastore 1 lv (.inl z :: .inl x :: .inr (.inr (some n)) :: st) w = cm_as 52 g pc lv (.inl z :: .inl x :: .inr (.inr (some n)) :: st) w) (k : cm_X C y (pc + 1) lv st (cm_u1 w n i (g z)) Q) : cm_X C y pc lv (.inl z :: .inl x :: .inr (.inr (some n)) :: st) w Q := by
  have e1 : x.toInt.toNat = i := by rw [hx, he]; exact Int.toNat_natCast i
  refine wk_as hg (by omega) (by omega) hd hi ?_
  rw [e1]
  exact k
theorem px_four {w : cm_W} {v : Int32} {l : Nat} (hl : (w.1 0 1).toInt = (l : Int)) (hl4 : l + 4 ≤ 940) : ∃ w', cm_C 1 36 [.inr (.inr (some 0)), .inl v] w (none, w') ∧ (w'.1 0 1).toInt = ((l + 4 : Nat) : Int) ∧ (∀ t, t < 4 → (w'.1 1 (l + t)).toInt = (fb_b v (24 - 8 * t) : Int)) ∧ (∀ k i, ¬ (k = 0 ∧ i = 1) → ¬ (k = 1 ∧ l ≤ i ∧ i < l + 4) → w'.1 k i = w.1 k i) ∧ (∀ k i, w'.2 k i = w.2 k i) := by
  have h : ∃ o, cm_C (0 + 1) 36 [.inr (.inr (some 0)), .inl v] w o ∧ (fun o : cm_O => ∃ w', o = (none, w') ∧ (w'.1 0 1).toInt = ((l + 4 : Nat) : Int) ∧ (∀ t, t < 4 → (w'.1 1 (l + t)).toInt = (fb_b v (24 - 8 * t) : Int)) ∧ (∀ k i, ¬ (k = 0 ∧ i = 1) → ¬ (k = 1 ∧ l ≤ i ∧ i < l + 4) → w'.1 k i = w.1 k i) ∧ (∀ k i, w'.2 k i = w.2 k i)) o := by
    refine wk_entry (by rw [xm_3b7150e6]; exact Nat.le_of_ble_eq_true rfl) ?_
    rw [show cm_ent 36 [.inr (.inr (some 0)), .inl v] = [some (.inr (.inr (some 0))), some (.inl v), none] from by unfold cm_ent; rw [xm_3b7150e6]; rfl]
    refine wk_bipush xd_4cde3eb5 ?_
    refine wk_istore_n xd_6383cbf5 (by rw [xm_3b7150e6]; rfl) rfl ?_
    refine wk_iload_n xd_eff4a0af rfl ?_
    refine wk_if xd_f8749a7c (t := 39) rfl (fun h => absurd (aw_lt_t (show (((Int8.ofInt 24).toInt32)).toInt = 24 from by decide) hb_z h) (by omega)) (fun _ => ?_)
    skip
    refine wk_aload_n xd_cf6b8131 rfl ?_
    refine wk_getR xf_96445c91 xd_f91b0b1a ?_
    refine wk_aload_n xd_73126b53 rfl ?_
    refine wk_getI xf_4e24c27f xd_8109abb6 ?_
    refine wk_iload_n xd_142d301d rfl ?_
    refine wk_iload_n xd_256873f0 rfl ?_
    refine wk_iushr xd_4cac08bf ?_
    refine wk_sipush xd_528f309d ?_
    refine wk_iand xd_ec0cd528 ?_
    refine aw_iastore (i := l) xf_97ae57c2 (show ((w.1 0 1)).toInt = ((l : Int) : Int) from hl) (by omega) (by omega) xd_14862326 ?_
    refine wk_aload_n xd_c69a1192 rfl ?_
    refine wk_dup_r xd_a5aca81c ?_
    refine wk_getI xf_4e24c27f xd_ea5efd53 ?_
    refine wk_iconst xd_d3a2bce3 ?_
    refine aw_iadd (a := ((l : Int) : Int)) (b := (1 : Int)) (e := ((l : Int) + 1 : Int)) xd_5ac65842 (show (((cm_u1 w 1 l (((v.toUInt32 >>> (((Int8.ofInt 24).toInt32).toUInt32 &&& Int32.toUInt32 31)).toInt32) &&& ((Int16.ofInt 255).toInt32))).1 0 1)).toInt = ((l : Int) : Int) from hl) (show ((Int32.ofInt 1)).toInt = 1 from by decide) (by omega) (by omega) (by omega) (fun v2_ p2_ => ?_)
    refine wk_putI xf_820ab67e (fun ci => wk_fitI ci) xd_16e78fff ?_
    refine aw_iinc (a := (24 : Int)) (b := ((-8) : Int)) (e := (16 : Int)) xd_fa9cef86 (by rw [xm_3b7150e6]; rfl) rfl rfl (show (((Int8.ofInt 24).toInt32)).toInt = 24 from by decide) (show ((Int32.ofInt (-8))).toInt = (-8) from by decide) (by omega) (by omega) (by omega) (fun v3_ p3_ => ?_)
    refine wk_goto xd_f2f70a03 (t := 3) rfl ?_
    refine wk_iload_n xd_eff4a0af rfl ?_
    refine wk_if xd_f8749a7c (t := 39) rfl (fun h => absurd (aw_lt_t p3_ hb_z h) (by omega)) (fun _ => ?_)
    skip
    refine wk_aload_n xd_cf6b8131 rfl ?_
    refine wk_getR xf_96445c91 xd_f91b0b1a ?_
    refine wk_aload_n xd_73126b53 rfl ?_
    refine wk_getI xf_4e24c27f xd_8109abb6 ?_
    refine wk_iload_n xd_142d301d rfl ?_
    refine wk_iload_n xd_256873f0 rfl ?_
    refine wk_iushr xd_4cac08bf ?_
    refine wk_sipush xd_528f309d ?_
    refine wk_iand xd_ec0cd528 ?_
    refine aw_iastore (i := (1 + l)) xf_97ae57c2 (show (((cm_u1 (cm_u1 w 1 l (((v.toUInt32 >>> (((Int8.ofInt 24).toInt32).toUInt32 &&& Int32.toUInt32 31)).toInt32) &&& ((Int16.ofInt 255).toInt32))) 0 1 v2_).1 0 1)).toInt = ((l : Int) + 1 : Int) from p2_) (by omega) (by omega) xd_14862326 ?_
    refine wk_aload_n xd_c69a1192 rfl ?_
    refine wk_dup_r xd_a5aca81c ?_
    refine wk_getI xf_4e24c27f xd_ea5efd53 ?_
    refine wk_iconst xd_d3a2bce3 ?_
    refine aw_iadd (a := ((l : Int) + 1 : Int)) (b := (1 : Int)) (e := ((l : Int) + 2 : Int)) xd_5ac65842 (show (((cm_u1 (cm_u1 (cm_u1 w 1 l (((v.toUInt32 >>> (((Int8.ofInt 24).toInt32).toUInt32 &&& Int32.toUInt32 31)).toInt32) &&& ((Int16.ofInt 255).toInt32))) 0 1 v2_) 1 (1 + l) (((v.toUInt32 >>> (v3_.toUInt32 &&& Int32.toUInt32 31)).toInt32) &&& ((Int16.ofInt 255).toInt32))).1 0 1)).toInt = ((l : Int) + 1 : Int) from p2_) (show ((Int32.ofInt 1)).toInt = 1 from by decide) (by omega) (by omega) (by omega) (fun v5_ p5_ => ?_)
    refine wk_putI xf_820ab67e (fun ci => wk_fitI ci) xd_16e78fff ?_
    refine aw_iinc (a := (16 : Int)) (b := ((-8) : Int)) (e := (8 : Int)) xd_fa9cef86 (by rw [xm_3b7150e6]; rfl) rfl rfl p3_ (show ((Int32.ofInt (-8))).toInt = (-8) from by decide) (by omega) (by omega) (by omega) (fun v6_ p6_ => ?_)
    refine wk_goto xd_f2f70a03 (t := 3) rfl ?_
    refine wk_iload_n xd_eff4a0af rfl ?_
    refine wk_if xd_f8749a7c (t := 39) rfl (fun h => absurd (aw_lt_t p6_ hb_z h) (by omega)) (fun _ => ?_)
    skip
    refine wk_aload_n xd_cf6b8131 rfl ?_
    refine wk_getR xf_96445c91 xd_f91b0b1a ?_
    refine wk_aload_n xd_73126b53 rfl ?_
    refine wk_getI xf_4e24c27f xd_8109abb6 ?_
    refine wk_iload_n xd_142d301d rfl ?_
    refine wk_iload_n xd_256873f0 rfl ?_
    refine wk_iushr xd_4cac08bf ?_
    refine wk_sipush xd_528f309d ?_
    refine wk_iand xd_ec0cd528 ?_
    refine aw_iastore (i := (2 + l)) xf_97ae57c2 (show (((cm_u1 (cm_u1 (cm_u1 (cm_u1 w 1 l (((v.toUInt32 >>> (((Int8.ofInt 24).toInt32).toUInt32 &&& Int32.toUInt32 31)).toInt32) &&& ((Int16.ofInt 255).toInt32))) 0 1 v2_) 1 (1 + l) (((v.toUInt32 >>> (v3_.toUInt32 &&& Int32.toUInt32 31)).toInt32) &&& ((Int16.ofInt 255).toInt32))) 0 1 v5_).1 0 1)).toInt = ((l : Int) + 2 : Int) from p5_) (by omega) (by omega) xd_14862326 ?_
    refine wk_aload_n xd_c69a1192 rfl ?_
    refine wk_dup_r xd_a5aca81c ?_
    refine wk_getI xf_4e24c27f xd_ea5efd53 ?_
    refine wk_iconst xd_d3a2bce3 ?_
    refine aw_iadd (a := ((l : Int) + 2 : Int)) (b := (1 : Int)) (e := ((l : Int) + 3 : Int)) xd_5ac65842 (show (((cm_u1 (cm_u1 (cm_u1 (cm_u1 (cm_u1 w 1 l (((v.toUInt32 >>> (((Int8.ofInt 24).toInt32).toUInt32 &&& Int32.toUInt32 31)).toInt32) &&& ((Int16.ofInt 255).toInt32))) 0 1 v2_) 1 (1 + l) (((v.toUInt32 >>> (v3_.toUInt32 &&& Int32.toUInt32 31)).toInt32) &&& ((Int16.ofInt 255).toInt32))) 0 1 v5_) 1 (2 + l) (((v.toUInt32 >>> (v6_.toUInt32 &&& Int32.toUInt32 31)).toInt32) &&& ((Int16.ofInt 255).toInt32))).1 0 1)).toInt = ((l : Int) + 2 : Int) from p5_) (show ((Int32.ofInt 1)).toInt = 1 from by decide) (by omega) (by omega) (by omega) (fun v8_ p8_ => ?_)
    refine wk_putI xf_820ab67e (fun ci => wk_fitI ci) xd_16e78fff ?_
    refine aw_iinc (a := (8 : Int)) (b := ((-8) : Int)) (e := (0 : Int)) xd_fa9cef86 (by rw [xm_3b7150e6]; rfl) rfl rfl p6_ (show ((Int32.ofInt (-8))).toInt = (-8) from by decide) (by omega) (by omega) (by omega) (fun v9_ p9_ => ?_)
    refine wk_goto xd_f2f70a03 (t := 3) rfl ?_
    refine wk_iload_n xd_eff4a0af rfl ?_
    refine wk_if xd_f8749a7c (t := 39) rfl (fun h => absurd (aw_lt_t p9_ hb_z h) (by omega)) (fun _ => ?_)
    skip
    refine wk_aload_n xd_cf6b8131 rfl ?_
    refine wk_getR xf_96445c91 xd_f91b0b1a ?_
    refine wk_aload_n xd_73126b53 rfl ?_
    refine wk_getI xf_4e24c27f xd_8109abb6 ?_
    refine wk_iload_n xd_142d301d rfl ?_
    refine wk_iload_n xd_256873f0 rfl ?_
    refine wk_iushr xd_4cac08bf ?_
    refine wk_sipush xd_528f309d ?_
    refine wk_iand xd_ec0cd528 ?_
    refine aw_iastore (i := (3 + l)) xf_97ae57c2 (show (((cm_u1 (cm_u1 (cm_u1 (cm_u1 (cm_u1 (cm_u1 w 1 l (((v.toUInt32 >>> (((Int8.ofInt 24).toInt32).toUInt32 &&& Int32.toUInt32 31)).toInt32) &&& ((Int16.ofInt 255).toInt32))) 0 1 v2_) 1 (1 + l) (((v.toUInt32 >>> (v3_.toUInt32 &&& Int32.toUInt32 31)).toInt32) &&& ((Int16.ofInt 255).toInt32))) 0 1 v5_) 1 (2 + l) (((v.toUInt32 >>> (v6_.toUInt32 &&& Int32.toUInt32 31)).toInt32) &&& ((Int16.ofInt 255).toInt32))) 0 1 v8_).1 0 1)).toInt = ((l : Int) + 3 : Int) from p8_) (by omega) (by omega) xd_14862326 ?_
    refine wk_aload_n xd_c69a1192 rfl ?_
    refine wk_dup_r xd_a5aca81c ?_
    refine wk_getI xf_4e24c27f xd_ea5efd53 ?_
    refine wk_iconst xd_d3a2bce3 ?_
    refine aw_iadd (a := ((l : Int) + 3 : Int)) (b := (1 : Int)) (e := ((l : Int) + 4 : Int)) xd_5ac65842 (show (((cm_u1 (cm_u1 (cm_u1 (cm_u1 (cm_u1 (cm_u1 (cm_u1 w 1 l (((v.toUInt32 >>> (((Int8.ofInt 24).toInt32).toUInt32 &&& Int32.toUInt32 31)).toInt32) &&& ((Int16.ofInt 255).toInt32))) 0 1 v2_) 1 (1 + l) (((v.toUInt32 >>> (v3_.toUInt32 &&& Int32.toUInt32 31)).toInt32) &&& ((Int16.ofInt 255).toInt32))) 0 1 v5_) 1 (2 + l) (((v.toUInt32 >>> (v6_.toUInt32 &&& Int32.toUInt32 31)).toInt32) &&& ((Int16.ofInt 255).toInt32))) 0 1 v8_) 1 (3 + l) (((v.toUInt32 >>> (v9_.toUInt32 &&& Int32.toUInt32 31)).toInt32) &&& ((Int16.ofInt 255).toInt32))).1 0 1)).toInt = ((l : Int) + 3 : Int) from p8_) (show ((Int32.ofInt 1)).toInt = 1 from by decide) (by omega) (by omega) (by omega) (fun v11_ p11_ => ?_)
    refine wk_putI xf_820ab67e (fun ci => wk_fitI ci) xd_16e78fff ?_
    refine aw_iinc (a := (0 : Int)) (b := ((-8) : Int)) (e := ((-8) : Int)) xd_fa9cef86 (by rw [xm_3b7150e6]; rfl) rfl rfl p9_ (show ((Int32.ofInt (-8))).toInt = (-8) from by decide) (by omega) (by omega) (by omega) (fun v12_ p12_ => ?_)
    refine wk_goto xd_f2f70a03 (t := 3) rfl ?_
    refine wk_iload_n xd_eff4a0af rfl ?_
    refine wk_if xd_f8749a7c (t := 39) rfl (fun _ => ?_) (fun h => absurd (aw_lt_f p12_ hb_z h) (by omega))
    refine wk_return xd_e839dd18 xr_5576a2cf ⟨_, rfl, ?_, fun t ht => ?_, fun k i h1 h2 => ?_, fun _ _ => rfl⟩
    · rw [hs_u1_self]
      have e9 := p11_
      omega
    · rcases (show t = 0 ∨ t = 1 ∨ t = 2 ∨ t = 3 by omega) with rfl | rfl | rfl | rfl
      · rw [Nat.add_zero, hs_u1_ne (by omega), hs_u1_ne (by omega), hs_u1_ne (by omega), hs_u1_ne (by omega), hs_u1_ne (by omega), hs_u1_ne (by omega), hs_u1_ne (by omega), hs_u1_self]
        exact fb_x (by have e9 := (show (((Int8.ofInt 24).toInt32)).toInt = 24 from by decide); omega) (by omega)
      · rw [hs_u1_ne (by omega), hs_u1_ne (by omega), hs_u1_ne (by omega), hs_u1_ne (by omega), hs_u1_ne (by omega), show l + 1 = (1 + l) from by omega, hs_u1_self]
        exact fb_x (by have e9 := p3_; omega) (by omega)
      · rw [hs_u1_ne (by omega), hs_u1_ne (by omega), hs_u1_ne (by omega), show l + 2 = (2 + l) from by omega, hs_u1_self]
        exact fb_x (by have e9 := p6_; omega) (by omega)
      · rw [hs_u1_ne (by omega), show l + 3 = (3 + l) from by omega, hs_u1_self]
        exact fb_x (by have e9 := p9_; omega) (by omega)
    · rw [hs_u1_ne (by omega), hs_u1_ne (by omega), hs_u1_ne (by omega), hs_u1_ne (by omega), hs_u1_ne (by omega), hs_u1_ne (by omega), hs_u1_ne (by omega), hs_u1_ne (by omega)]
  obtain ⟨o, hC, w', rfl, a⟩ := h
  exact ⟨w', hC, a⟩
theorem pm_four {w : cm_W} {v : Int32} {l : Nat} (hl : (w.1 184 2).toInt = (l : Int)) (hl4 : l + 4 ≤ 940) : ∃ w', cm_C 1 107 [.inr (.inr (some 184)), .inl v] w (none, w') ∧ (w'.1 184 2).toInt = ((l + 4 : Nat) : Int) ∧ (∀ t, t < 4 → (w'.1 185 (l + t) &&& ((Int16.ofInt 255).toInt32)).toInt = (fb_b v (24 - 8 * t) : Int)) ∧ (∀ k i, ¬ (k = 184 ∧ i = 2) → ¬ (k = 185 ∧ l ≤ i ∧ i < l + 4) → w'.1 k i = w.1 k i) ∧ (∀ k i, w'.2 k i = w.2 k i) := by
  have h : ∃ o, cm_C (0 + 1) 107 [.inr (.inr (some 184)), .inl v] w o ∧ (fun o : cm_O => ∃ w', o = (none, w') ∧ (w'.1 184 2).toInt = ((l + 4 : Nat) : Int) ∧ (∀ t, t < 4 → (w'.1 185 (l + t) &&& ((Int16.ofInt 255).toInt32)).toInt = (fb_b v (24 - 8 * t) : Int)) ∧ (∀ k i, ¬ (k = 184 ∧ i = 2) → ¬ (k = 185 ∧ l ≤ i ∧ i < l + 4) → w'.1 k i = w.1 k i) ∧ (∀ k i, w'.2 k i = w.2 k i)) o := by
    refine wk_entry (by rw [xm_60e4ffd3]; exact Nat.le_of_ble_eq_true rfl) ?_
    rw [show cm_ent 107 [.inr (.inr (some 184)), .inl v] = [some (.inr (.inr (some 184))), some (.inl v), none] from by unfold cm_ent; rw [xm_60e4ffd3]; rfl]
    refine wk_bipush xd_1534b386 ?_
    refine wk_istore_n xd_dc0a406e (by rw [xm_60e4ffd3]; rfl) rfl ?_
    refine wk_iload_n xd_b61e2d9c rfl ?_
    refine wk_if xd_f7016bc6 (t := 36) rfl (fun h => absurd (aw_lt_t (show (((Int8.ofInt 24).toInt32)).toInt = 24 from by decide) hb_z h) (by omega)) (fun _ => ?_)
    skip
    refine wk_aload_n xd_96810c02 rfl ?_
    refine wk_getR xf_beafe1a7 xd_521150b3 ?_
    refine wk_aload_n xd_cc9be0c8 rfl ?_
    refine wk_getI xf_8196ad61 xd_3942ad43 ?_
    refine wk_iload_n xd_aba4bb86 rfl ?_
    refine wk_iload_n xd_9ae1f86b rfl ?_
    refine wk_ishr xd_0bf52d75 ?_
    refine wk_i2b xd_0bd3ecce ?_
    refine ax_bastore (g := vp_nar .byte) (i := l) xf_4af44f64 (show ((w.1 184 2)).toInt = ((l : Int) : Int) from hl) (by omega) (by omega) xd_0983a6cb rfl ?_
    refine wk_aload_n xd_0ff6a334 rfl ?_
    refine wk_dup_r xd_e9492a87 ?_
    refine wk_getI xf_8196ad61 xd_0caf1b10 ?_
    refine wk_iconst xd_7882e010 ?_
    refine aw_iadd (a := ((l : Int) : Int)) (b := (1 : Int)) (e := ((l : Int) + 1 : Int)) xd_2fd23283 (show (((cm_u1 w 185 l (vp_nar .byte ((v >>> (((Int8.ofInt 24).toInt32) &&& 31)).toInt8.toInt32))).1 184 2)).toInt = ((l : Int) : Int) from hl) (show ((Int32.ofInt 1)).toInt = 1 from by decide) (by omega) (by omega) (by omega) (fun v2_ p2_ => ?_)
    refine wk_putI xf_f65db383 (fun ci => wk_fitI ci) xd_53f4d01e ?_
    refine aw_iinc (a := (24 : Int)) (b := ((-8) : Int)) (e := (16 : Int)) xd_27aeef25 (by rw [xm_60e4ffd3]; rfl) rfl rfl (show (((Int8.ofInt 24).toInt32)).toInt = 24 from by decide) (show ((Int32.ofInt (-8))).toInt = (-8) from by decide) (by omega) (by omega) (by omega) (fun v3_ p3_ => ?_)
    refine wk_goto xd_fb224092 (t := 3) rfl ?_
    refine wk_iload_n xd_b61e2d9c rfl ?_
    refine wk_if xd_f7016bc6 (t := 36) rfl (fun h => absurd (aw_lt_t p3_ hb_z h) (by omega)) (fun _ => ?_)
    skip
    refine wk_aload_n xd_96810c02 rfl ?_
    refine wk_getR xf_beafe1a7 xd_521150b3 ?_
    refine wk_aload_n xd_cc9be0c8 rfl ?_
    refine wk_getI xf_8196ad61 xd_3942ad43 ?_
    refine wk_iload_n xd_aba4bb86 rfl ?_
    refine wk_iload_n xd_9ae1f86b rfl ?_
    refine wk_ishr xd_0bf52d75 ?_
    refine wk_i2b xd_0bd3ecce ?_
    refine ax_bastore (g := vp_nar .byte) (i := (1 + l)) xf_4af44f64 (show (((cm_u1 (cm_u1 w 185 l (vp_nar .byte ((v >>> (((Int8.ofInt 24).toInt32) &&& 31)).toInt8.toInt32))) 184 2 v2_).1 184 2)).toInt = ((l : Int) + 1 : Int) from p2_) (by omega) (by omega) xd_0983a6cb rfl ?_
    refine wk_aload_n xd_0ff6a334 rfl ?_
    refine wk_dup_r xd_e9492a87 ?_
    refine wk_getI xf_8196ad61 xd_0caf1b10 ?_
    refine wk_iconst xd_7882e010 ?_
    refine aw_iadd (a := ((l : Int) + 1 : Int)) (b := (1 : Int)) (e := ((l : Int) + 2 : Int)) xd_2fd23283 (show (((cm_u1 (cm_u1 (cm_u1 w 185 l (vp_nar .byte ((v >>> (((Int8.ofInt 24).toInt32) &&& 31)).toInt8.toInt32))) 184 2 v2_) 185 (1 + l) (vp_nar .byte ((v >>> (v3_ &&& 31)).toInt8.toInt32))).1 184 2)).toInt = ((l : Int) + 1 : Int) from p2_) (show ((Int32.ofInt 1)).toInt = 1 from by decide) (by omega) (by omega) (by omega) (fun v5_ p5_ => ?_)
    refine wk_putI xf_f65db383 (fun ci => wk_fitI ci) xd_53f4d01e ?_
    refine aw_iinc (a := (16 : Int)) (b := ((-8) : Int)) (e := (8 : Int)) xd_27aeef25 (by rw [xm_60e4ffd3]; rfl) rfl rfl p3_ (show ((Int32.ofInt (-8))).toInt = (-8) from by decide) (by omega) (by omega) (by omega) (fun v6_ p6_ => ?_)
    refine wk_goto xd_fb224092 (t := 3) rfl ?_
    refine wk_iload_n xd_b61e2d9c rfl ?_
    refine wk_if xd_f7016bc6 (t := 36) rfl (fun h => absurd (aw_lt_t p6_ hb_z h) (by omega)) (fun _ => ?_)
    skip
    refine wk_aload_n xd_96810c02 rfl ?_
    refine wk_getR xf_beafe1a7 xd_521150b3 ?_
    refine wk_aload_n xd_cc9be0c8 rfl ?_
    refine wk_getI xf_8196ad61 xd_3942ad43 ?_
    refine wk_iload_n xd_aba4bb86 rfl ?_
    refine wk_iload_n xd_9ae1f86b rfl ?_
    refine wk_ishr xd_0bf52d75 ?_
    refine wk_i2b xd_0bd3ecce ?_
    refine ax_bastore (g := vp_nar .byte) (i := (2 + l)) xf_4af44f64 (show (((cm_u1 (cm_u1 (cm_u1 (cm_u1 w 185 l (vp_nar .byte ((v >>> (((Int8.ofInt 24).toInt32) &&& 31)).toInt8.toInt32))) 184 2 v2_) 185 (1 + l) (vp_nar .byte ((v >>> (v3_ &&& 31)).toInt8.toInt32))) 184 2 v5_).1 184 2)).toInt = ((l : Int) + 2 : Int) from p5_) (by omega) (by omega) xd_0983a6cb rfl ?_
    refine wk_aload_n xd_0ff6a334 rfl ?_
    refine wk_dup_r xd_e9492a87 ?_
    refine wk_getI xf_8196ad61 xd_0caf1b10 ?_
    refine wk_iconst xd_7882e010 ?_
    refine aw_iadd (a := ((l : Int) + 2 : Int)) (b := (1 : Int)) (e := ((l : Int) + 3 : Int)) xd_2fd23283 (show (((cm_u1 (cm_u1 (cm_u1 (cm_u1 (cm_u1 w 185 l (vp_nar .byte ((v >>> (((Int8.ofInt 24).toInt32) &&& 31)).toInt8.toInt32))) 184 2 v2_) 185 (1 + l) (vp_nar .byte ((v >>> (v3_ &&& 31)).toInt8.toInt32))) 184 2 v5_) 185 (2 + l) (vp_nar .byte ((v >>> (v6_ &&& 31)).toInt8.toInt32))).1 184 2)).toInt = ((l : Int) + 2 : Int) from p5_) (show ((Int32.ofInt 1)).toInt = 1 from by decide) (by omega) (by omega) (by omega) (fun v8_ p8_ => ?_)
    refine wk_putI xf_f65db383 (fun ci => wk_fitI ci) xd_53f4d01e ?_
    refine aw_iinc (a := (8 : Int)) (b := ((-8) : Int)) (e := (0 : Int)) xd_27aeef25 (by rw [xm_60e4ffd3]; rfl) rfl rfl p6_ (show ((Int32.ofInt (-8))).toInt = (-8) from by decide) (by omega) (by omega) (by omega) (fun v9_ p9_ => ?_)
    refine wk_goto xd_fb224092 (t := 3) rfl ?_
    refine wk_iload_n xd_b61e2d9c rfl ?_
    refine wk_if xd_f7016bc6 (t := 36) rfl (fun h => absurd (aw_lt_t p9_ hb_z h) (by omega)) (fun _ => ?_)
    skip
    refine wk_aload_n xd_96810c02 rfl ?_
    refine wk_getR xf_beafe1a7 xd_521150b3 ?_
    refine wk_aload_n xd_cc9be0c8 rfl ?_
    refine wk_getI xf_8196ad61 xd_3942ad43 ?_
    refine wk_iload_n xd_aba4bb86 rfl ?_
    refine wk_iload_n xd_9ae1f86b rfl ?_
    refine wk_ishr xd_0bf52d75 ?_
    refine wk_i2b xd_0bd3ecce ?_
    refine ax_bastore (g := vp_nar .byte) (i := (3 + l)) xf_4af44f64 (show (((cm_u1 (cm_u1 (cm_u1 (cm_u1 (cm_u1 (cm_u1 w 185 l (vp_nar .byte ((v >>> (((Int8.ofInt 24).toInt32) &&& 31)).toInt8.toInt32))) 184 2 v2_) 185 (1 + l) (vp_nar .byte ((v >>> (v3_ &&& 31)).toInt8.toInt32))) 184 2 v5_) 185 (2 + l) (vp_nar .byte ((v >>> (v6_ &&& 31)).toInt8.toInt32))) 184 2 v8_).1 184 2)).toInt = ((l : Int) + 3 : Int) from p8_) (by omega) (by omega) xd_0983a6cb rfl ?_
    refine wk_aload_n xd_0ff6a334 rfl ?_
    refine wk_dup_r xd_e9492a87 ?_
    refine wk_getI xf_8196ad61 xd_0caf1b10 ?_
    refine wk_iconst xd_7882e010 ?_
    refine aw_iadd (a := ((l : Int) + 3 : Int)) (b := (1 : Int)) (e := ((l : Int) + 4 : Int)) xd_2fd23283 (show (((cm_u1 (cm_u1 (cm_u1 (cm_u1 (cm_u1 (cm_u1 (cm_u1 w 185 l (vp_nar .byte ((v >>> (((Int8.ofInt 24).toInt32) &&& 31)).toInt8.toInt32))) 184 2 v2_) 185 (1 + l) (vp_nar .byte ((v >>> (v3_ &&& 31)).toInt8.toInt32))) 184 2 v5_) 185 (2 + l) (vp_nar .byte ((v >>> (v6_ &&& 31)).toInt8.toInt32))) 184 2 v8_) 185 (3 + l) (vp_nar .byte ((v >>> (v9_ &&& 31)).toInt8.toInt32))).1 184 2)).toInt = ((l : Int) + 3 : Int) from p8_) (show ((Int32.ofInt 1)).toInt = 1 from by decide) (by omega) (by omega) (by omega) (fun v11_ p11_ => ?_)
    refine wk_putI xf_f65db383 (fun ci => wk_fitI ci) xd_53f4d01e ?_
    refine aw_iinc (a := (0 : Int)) (b := ((-8) : Int)) (e := ((-8) : Int)) xd_27aeef25 (by rw [xm_60e4ffd3]; rfl) rfl rfl p9_ (show ((Int32.ofInt (-8))).toInt = (-8) from by decide) (by omega) (by omega) (by omega) (fun v12_ p12_ => ?_)
    refine wk_goto xd_fb224092 (t := 3) rfl ?_
    refine wk_iload_n xd_b61e2d9c rfl ?_
    refine wk_if xd_f7016bc6 (t := 36) rfl (fun _ => ?_) (fun h => absurd (aw_lt_f p12_ hb_z h) (by omega))
    refine wk_return xd_fd9c764a xr_e1cd9ca6 ⟨_, rfl, ?_, fun t ht => ?_, fun k i h1 h2 => ?_, fun _ _ => rfl⟩
    · rw [hs_u1_self]
      have e9 := p11_
      omega
    · rcases (show t = 0 ∨ t = 1 ∨ t = 2 ∨ t = 3 by omega) with rfl | rfl | rfl | rfl
      · rw [Nat.add_zero, hs_u1_ne (by omega), hs_u1_ne (by omega), hs_u1_ne (by omega), hs_u1_ne (by omega), hs_u1_ne (by omega), hs_u1_ne (by omega), hs_u1_ne (by omega), hs_u1_self]
        exact fb_m (by have e9 := (show (((Int8.ofInt 24).toInt32)).toInt = 24 from by decide); omega) (by omega)
      · rw [hs_u1_ne (by omega), hs_u1_ne (by omega), hs_u1_ne (by omega), hs_u1_ne (by omega), hs_u1_ne (by omega), show l + 1 = (1 + l) from by omega, hs_u1_self]
        exact fb_m (by have e9 := p3_; omega) (by omega)
      · rw [hs_u1_ne (by omega), hs_u1_ne (by omega), hs_u1_ne (by omega), show l + 2 = (2 + l) from by omega, hs_u1_self]
        exact fb_m (by have e9 := p6_; omega) (by omega)
      · rw [hs_u1_ne (by omega), show l + 3 = (3 + l) from by omega, hs_u1_self]
        exact fb_m (by have e9 := p9_; omega) (by omega)
    · rw [hs_u1_ne (by omega), hs_u1_ne (by omega), hs_u1_ne (by omega), hs_u1_ne (by omega), hs_u1_ne (by omega), hs_u1_ne (by omega), hs_u1_ne (by omega), hs_u1_ne (by omega)]
  obtain ⟨o, hC, w', rfl, a⟩ := h
  exact ⟨w', hC, a⟩
def fb_f (a b c d e : Int32) (i : Nat) : Int := fb_b (if i < 4 then a else if i < 8 then b else if i < 12 then c else if i < 16 then d else e) (24 - 8 * (i % 4))
theorem px_feed {w : cm_W} {a b c d e : Int32} {l : Nat} (hl : (w.1 0 1).toInt = (l : Int)) (hl2 : l ≤ 920) : ∃ x w', cm_C 2 13 [.inr (.inr (some 0)), .inl a, .inl b, .inl c, .inl d, .inl e] w (some (.inl x), w') ∧ (∀ i, i < 20 → (w'.1 1 (l + i)).toInt = fb_f a b c d e i) ∧ (∀ k i, ¬ (k = 0 ∧ i = 1) → ¬ (k = 1 ∧ l ≤ i ∧ i < l + 20) → w'.1 k i = w.1 k i) ∧ (∀ k i, w'.2 k i = w.2 k i) := by
  have h : ∃ o, cm_C (1 + 1) 13 [.inr (.inr (some 0)), .inl a, .inl b, .inl c, .inl d, .inl e] w o ∧ (fun o : cm_O => ∃ x w', o = (some (.inl x), w') ∧ (∀ i, i < 20 → (w'.1 1 (l + i)).toInt = fb_f a b c d e i) ∧ (∀ k i, ¬ (k = 0 ∧ i = 1) → ¬ (k = 1 ∧ l ≤ i ∧ i < l + 20) → w'.1 k i = w.1 k i) ∧ (∀ k i, w'.2 k i = w.2 k i)) o := by
    refine wk_entry (by rw [xm_ce338a12]; exact Nat.le_of_ble_eq_true rfl) ?_
    rw [show cm_ent 13 [.inr (.inr (some 0)), .inl a, .inl b, .inl c, .inl d, .inl e] = [some (.inr (.inr (some 0))), some (.inl a), some (.inl b), some (.inl c), some (.inl d), some (.inl e)] from by unfold cm_ent; rw [xm_ce338a12]; rfl]
    refine wk_aload_n xd_a9431f54 rfl ?_
    refine wk_getI xf_de6aa569 xd_c6332b16 ?_
    refine wk_bipush xd_a9933f2d ?_
    refine aw_iadd (a := ((l : Int) : Int)) (b := (20 : Int)) (e := ((l : Int) + 20 : Int)) xd_2f879ba2 (show ((w.1 0 1)).toInt = ((l : Int) : Int) from hl) (show (((Int8.ofInt 20).toInt32)).toInt = 20 from by decide) (by omega) (by omega) (by omega) (fun v1_ p1_ => ?_)
    refine wk_sipush xd_afba928b ?_
    refine wk_icmp xd_a84d5c09 (t := 15) rfl (fun h10_1 => ?_) (fun h10_1 => ?_)
    · have h10_1 := aw_le_t (a := ((l : Int) + 20 : Int)) (b := (940 : Int)) p1_ (show (((Int16.ofInt 940).toInt32)).toInt = 940 from by decide) h10_1
      refine wk_aload_n xd_7fe840fe rfl ?_
      refine wk_iload_n xd_6e6e831e rfl ?_
      obtain ⟨w0, hC0, hl0, hb0, hF0, hN0⟩ := px_four (w := w) (v := a) (l := l) (show (w.1 0 1).toInt = (l : Nat) from by have e9 := hl; omega) (by omega)
      refine wk_call (kd := 0) (i := 109) xd_33a8cc58 rfl (wk_cal (as := [.inr (.inr (some 0)), .inl a]) (t := []) xl_6f693c82 rfl xn_2d6b53be xc_01239ddd rfl rfl xv_9544886d rfl) (cm_C_mono (by omega) hC0) ?_
      refine wk_aload_n xd_bcd9a291 rfl ?_
      refine wk_iload_n xd_0769c848 rfl ?_
      obtain ⟨w1, hC1, hl1, hb1, hF1, hN1⟩ := px_four (w := w0) (v := b) (l := (l + 4)) (show (w0.1 0 1).toInt = ((l + 4) : Nat) from by have e9 := hl0; omega) (by omega)
      refine wk_call (kd := 0) (i := 109) xd_cfcf8f72 rfl (wk_cal (as := [.inr (.inr (some 0)), .inl b]) (t := []) xl_6f693c82 rfl xn_2d6b53be xc_01239ddd rfl rfl xv_9544886d rfl) (cm_C_mono (by omega) hC1) ?_
      refine wk_aload_n xd_27f6e9d6 rfl ?_
      refine wk_iload_n xd_4cb07956 rfl ?_
      obtain ⟨w2, hC2, hl2, hb2, hF2, hN2⟩ := px_four (w := w1) (v := c) (l := (l + 8)) (show (w1.1 0 1).toInt = ((l + 8) : Nat) from by have e9 := hl1; omega) (by omega)
      refine wk_call (kd := 0) (i := 109) xd_fab7c4e7 rfl (wk_cal (as := [.inr (.inr (some 0)), .inl c]) (t := []) xl_6f693c82 rfl xn_2d6b53be xc_01239ddd rfl rfl xv_9544886d rfl) (cm_C_mono (by omega) hC2) ?_
      refine wk_aload_n xd_3dfcc7b6 rfl ?_
      refine wk_iload xd_d58219bb rfl ?_
      obtain ⟨w3, hC3, hl3, hb3, hF3, hN3⟩ := px_four (w := w2) (v := d) (l := (l + 12)) (show (w2.1 0 1).toInt = ((l + 12) : Nat) from by have e9 := hl2; omega) (by omega)
      refine wk_call (kd := 0) (i := 109) xd_30f26209 rfl (wk_cal (as := [.inr (.inr (some 0)), .inl d]) (t := []) xl_6f693c82 rfl xn_2d6b53be xc_01239ddd rfl rfl xv_9544886d rfl) (cm_C_mono (by omega) hC3) ?_
      refine wk_aload_n xd_d036b5cc rfl ?_
      refine wk_iload xd_1edf35cd rfl ?_
      obtain ⟨w4, hC4, hl4, hb4, hF4, hN4⟩ := px_four (w := w3) (v := e) (l := (l + 16)) (show (w3.1 0 1).toInt = ((l + 16) : Nat) from by have e9 := hl3; omega) (by omega)
      refine wk_call (kd := 0) (i := 109) xd_5a02f523 rfl (wk_cal (as := [.inr (.inr (some 0)), .inl e]) (t := []) xl_6f693c82 rfl xn_2d6b53be xc_01239ddd rfl rfl xv_9544886d rfl) (cm_C_mono (by omega) hC4) ?_
      refine wk_aload_n xd_e1722328 rfl ?_
      refine wk_getI xf_de6aa569 xd_b9f5c3af ?_
      refine wk_ireturn xd_98cf1f06 xr_27afd8c5 rfl ⟨_, _, rfl, fun i hi => ?_, fun k i h1 h2 => ?_, fun k i => ?_⟩
      · rcases (show i < 4 ∨ (4 ≤ i ∧ i < 8) ∨ (8 ≤ i ∧ i < 12) ∨ (12 ≤ i ∧ i < 16) ∨ 16 ≤ i by omega) with z | z | z | z | z
        · have g := hb0 (i - 0) (by omega)
          rw [show l + (i - 0) = l + i from by omega] at g
          unfold fb_f
          rw [if_pos (by omega), show i % 4 = i - 0 from by omega]
          rw [hF4 1 (l + i) (by omega) (by omega), hF3 1 (l + i) (by omega) (by omega), hF2 1 (l + i) (by omega) (by omega), hF1 1 (l + i) (by omega) (by omega)]
          exact g
        · have g := hb1 (i - 4) (by omega)
          rw [show (l + 4) + (i - 4) = l + i from by omega] at g
          unfold fb_f
          rw [if_neg (by omega), if_pos (by omega), show i % 4 = i - 4 from by omega]
          rw [hF4 1 (l + i) (by omega) (by omega), hF3 1 (l + i) (by omega) (by omega), hF2 1 (l + i) (by omega) (by omega)]
          exact g
        · have g := hb2 (i - 8) (by omega)
          rw [show (l + 8) + (i - 8) = l + i from by omega] at g
          unfold fb_f
          rw [if_neg (by omega), if_neg (by omega), if_pos (by omega), show i % 4 = i - 8 from by omega]
          rw [hF4 1 (l + i) (by omega) (by omega), hF3 1 (l + i) (by omega) (by omega)]
          exact g
        · have g := hb3 (i - 12) (by omega)
          rw [show (l + 12) + (i - 12) = l + i from by omega] at g
          unfold fb_f
          rw [if_neg (by omega), if_neg (by omega), if_neg (by omega), if_pos (by omega), show i % 4 = i - 12 from by omega]
          rw [hF4 1 (l + i) (by omega) (by omega)]
          exact g
        · have g := hb4 (i - 16) (by omega)
          rw [show (l + 16) + (i - 16) = l + i from by omega] at g
          unfold fb_f
          rw [if_neg (by omega), if_neg (by omega), if_neg (by omega), if_neg (by omega), show i % 4 = i - 16 from by omega]
          exact g
      · rw [hF4 k i (by omega) (by omega), hF3 k i (by omega) (by omega), hF2 k i (by omega) (by omega), hF1 k i (by omega) (by omega), hF0 k i (by omega) (by omega)]
      · rw [hN4, hN3, hN2, hN1, hN0]
    · have h10_1 := aw_le_f (a := ((l : Int) + 20 : Int)) (b := (940 : Int)) p1_ (show (((Int16.ofInt 940).toInt32)).toInt = 940 from by decide) h10_1
      exfalso
      omega
  obtain ⟨o, hC, x, w', rfl, a⟩ := h
  exact ⟨x, w', hC, a⟩
theorem pm_feed {w : cm_W} {a b c d e : Int32} {l : Nat} (hl : (w.1 184 2).toInt = (l : Int)) (hl2 : l ≤ 920) : ∃ x w', cm_C 2 105 [.inr (.inr (some 184)), .inl a, .inl b, .inl c, .inl d, .inl e] w (some (.inl x), w') ∧ (∀ i, i < 20 → (w'.1 185 (l + i) &&& ((Int16.ofInt 255).toInt32)).toInt = fb_f a b c d e i) ∧ (∀ k i, ¬ (k = 184 ∧ (i = 2 ∨ i = 0)) → ¬ (k = 185 ∧ l ≤ i ∧ i < l + 20) → w'.1 k i = w.1 k i) ∧ (∀ k i, w'.2 k i = w.2 k i) := by
  have h : ∃ o, cm_C (1 + 1) 105 [.inr (.inr (some 184)), .inl a, .inl b, .inl c, .inl d, .inl e] w o ∧ (fun o : cm_O => ∃ x w', o = (some (.inl x), w') ∧ (∀ i, i < 20 → (w'.1 185 (l + i) &&& ((Int16.ofInt 255).toInt32)).toInt = fb_f a b c d e i) ∧ (∀ k i, ¬ (k = 184 ∧ (i = 2 ∨ i = 0)) → ¬ (k = 185 ∧ l ≤ i ∧ i < l + 20) → w'.1 k i = w.1 k i) ∧ (∀ k i, w'.2 k i = w.2 k i)) o := by
    refine wk_entry (by rw [xm_6a4e583c]; exact Nat.le_of_ble_eq_true rfl) ?_
    rw [show cm_ent 105 [.inr (.inr (some 184)), .inl a, .inl b, .inl c, .inl d, .inl e] = [some (.inr (.inr (some 184))), some (.inl a), some (.inl b), some (.inl c), some (.inl d), some (.inl e)] from by unfold cm_ent; rw [xm_6a4e583c]; rfl]
    refine wk_aload_n xd_f572dfc3 rfl ?_
    refine wk_iconst xd_9202cebe ?_
    refine wk_putI xf_a4ed61d9 (fun ci => wk_fitI ci) xd_17b43d05 ?_
    refine wk_aload_n xd_6e5d9484 rfl ?_
    refine wk_getI xf_8442c6e2 xd_468a668c ?_
    refine wk_bipush xd_6e34f7db ?_
    refine aw_iadd (a := ((l : Int) : Int)) (b := (20 : Int)) (e := ((l : Int) + 20 : Int)) xd_43fa77ce (show (((cm_u1 w 184 0 (Int32.ofInt 0)).1 184 2)).toInt = ((l : Int) : Int) from hl) (show (((Int8.ofInt 20).toInt32)).toInt = 20 from by decide) (by omega) (by omega) (by omega) (fun v1_ p1_ => ?_)
    refine wk_sipush xd_3c0bf17e ?_
    refine wk_icmp xd_814ca4f4 (t := 20) rfl (fun h15_1 => ?_) (fun h15_1 => ?_)
    · have h15_1 := aw_le_t (a := ((l : Int) + 20 : Int)) (b := (940 : Int)) p1_ (show (((Int16.ofInt 940).toInt32)).toInt = 940 from by decide) h15_1
      refine wk_aload_n xd_d2ee95b6 rfl ?_
      refine wk_iload_n xd_2efe85bf rfl ?_
      obtain ⟨w0, hC0, hl0, hb0, hF0, hN0⟩ := pm_four (w := (cm_u1 w 184 0 (Int32.ofInt 0))) (v := a) (l := l) (show ((cm_u1 w 184 0 (Int32.ofInt 0)).1 184 2).toInt = ((l : Nat) : Int) from by rw [hs_u1_ne (by omega)]; exact hl) (by omega)
      refine wk_call (kd := 0) (i := 10) xd_53bda9b9 rfl (wk_cal (as := [.inr (.inr (some 184)), .inl a]) (t := []) xl_008ae44f rfl xn_6b5e3dc1 xc_747fb988 rfl rfl xv_7464cea2 rfl) (cm_C_mono (by omega) hC0) ?_
      refine wk_aload_n xd_49c1def1 rfl ?_
      refine wk_iload_n xd_1fe767c1 rfl ?_
      obtain ⟨w1, hC1, hl1, hb1, hF1, hN1⟩ := pm_four (w := w0) (v := b) (l := (l + 4)) (show (w0.1 184 2).toInt = ((l + 4) : Nat) from by have e9 := hl0; omega) (by omega)
      refine wk_call (kd := 0) (i := 10) xd_9e5ec691 rfl (wk_cal (as := [.inr (.inr (some 184)), .inl b]) (t := []) xl_008ae44f rfl xn_6b5e3dc1 xc_747fb988 rfl rfl xv_7464cea2 rfl) (cm_C_mono (by omega) hC1) ?_
      refine wk_aload_n xd_53cbf091 rfl ?_
      refine wk_iload_n xd_d51bb3f8 rfl ?_
      obtain ⟨w2, hC2, hl2, hb2, hF2, hN2⟩ := pm_four (w := w1) (v := c) (l := (l + 8)) (show (w1.1 184 2).toInt = ((l + 8) : Nat) from by have e9 := hl1; omega) (by omega)
      refine wk_call (kd := 0) (i := 10) xd_5d5a4168 rfl (wk_cal (as := [.inr (.inr (some 184)), .inl c]) (t := []) xl_008ae44f rfl xn_6b5e3dc1 xc_747fb988 rfl rfl xv_7464cea2 rfl) (cm_C_mono (by omega) hC2) ?_
      refine wk_aload_n xd_c8e4bbd6 rfl ?_
      refine wk_iload xd_3ecf0c58 rfl ?_
      obtain ⟨w3, hC3, hl3, hb3, hF3, hN3⟩ := pm_four (w := w2) (v := d) (l := (l + 12)) (show (w2.1 184 2).toInt = ((l + 12) : Nat) from by have e9 := hl2; omega) (by omega)
      refine wk_call (kd := 0) (i := 10) xd_1ded9979 rfl (wk_cal (as := [.inr (.inr (some 184)), .inl d]) (t := []) xl_008ae44f rfl xn_6b5e3dc1 xc_747fb988 rfl rfl xv_7464cea2 rfl) (cm_C_mono (by omega) hC3) ?_
      refine wk_aload_n xd_f9a02d32 rfl ?_
      refine wk_iload xd_748f1f13 rfl ?_
      obtain ⟨w4, hC4, hl4, hb4, hF4, hN4⟩ := pm_four (w := w3) (v := e) (l := (l + 16)) (show (w3.1 184 2).toInt = ((l + 16) : Nat) from by have e9 := hl3; omega) (by omega)
      refine wk_call (kd := 0) (i := 10) xd_fcaf916f rfl (wk_cal (as := [.inr (.inr (some 184)), .inl e]) (t := []) xl_008ae44f rfl xn_6b5e3dc1 xc_747fb988 rfl rfl xv_7464cea2 rfl) (cm_C_mono (by omega) hC4) ?_
      refine wk_aload_n xd_146a5f48 rfl ?_
      refine wk_getI xf_8442c6e2 xd_6f297d3d ?_
      refine wk_ireturn xd_64aa6e25 xr_76c6fad3 rfl ⟨_, _, rfl, fun i hi => ?_, fun k i h1 h2 => ?_, fun k i => ?_⟩
      · rcases (show i < 4 ∨ (4 ≤ i ∧ i < 8) ∨ (8 ≤ i ∧ i < 12) ∨ (12 ≤ i ∧ i < 16) ∨ 16 ≤ i by omega) with z | z | z | z | z
        · have g := hb0 (i - 0) (by omega)
          rw [show l + (i - 0) = l + i from by omega] at g
          unfold fb_f
          rw [if_pos (by omega), show i % 4 = i - 0 from by omega]
          rw [hF4 185 (l + i) (by omega) (by omega), hF3 185 (l + i) (by omega) (by omega), hF2 185 (l + i) (by omega) (by omega), hF1 185 (l + i) (by omega) (by omega)]
          exact g
        · have g := hb1 (i - 4) (by omega)
          rw [show (l + 4) + (i - 4) = l + i from by omega] at g
          unfold fb_f
          rw [if_neg (by omega), if_pos (by omega), show i % 4 = i - 4 from by omega]
          rw [hF4 185 (l + i) (by omega) (by omega), hF3 185 (l + i) (by omega) (by omega), hF2 185 (l + i) (by omega) (by omega)]
          exact g
        · have g := hb2 (i - 8) (by omega)
          rw [show (l + 8) + (i - 8) = l + i from by omega] at g
          unfold fb_f
          rw [if_neg (by omega), if_neg (by omega), if_pos (by omega), show i % 4 = i - 8 from by omega]
          rw [hF4 185 (l + i) (by omega) (by omega), hF3 185 (l + i) (by omega) (by omega)]
          exact g
        · have g := hb3 (i - 12) (by omega)
          rw [show (l + 12) + (i - 12) = l + i from by omega] at g
          unfold fb_f
          rw [if_neg (by omega), if_neg (by omega), if_neg (by omega), if_pos (by omega), show i % 4 = i - 12 from by omega]
          rw [hF4 185 (l + i) (by omega) (by omega)]
          exact g
        · have g := hb4 (i - 16) (by omega)
          rw [show (l + 16) + (i - 16) = l + i from by omega] at g
          unfold fb_f
          rw [if_neg (by omega), if_neg (by omega), if_neg (by omega), if_neg (by omega), show i % 4 = i - 16 from by omega]
          exact g
      · rw [hF4 k i (by omega) (by omega), hF3 k i (by omega) (by omega), hF2 k i (by omega) (by omega), hF1 k i (by omega) (by omega), hF0 k i (by omega) (by omega)]
        exact hs_u1_ne (by omega)
      · rw [hN4, hN3, hN2, hN1, hN0]
        rfl
    · have h15_1 := aw_le_f (a := ((l : Int) + 20 : Int)) (b := (940 : Int)) p1_ (show (((Int16.ofInt 940).toInt32)).toInt = 940 from by decide) h15_1
      exfalso
      omega
  obtain ⟨o, hC, x, w', rfl, a⟩ := h
  exact ⟨x, w', hC, a⟩

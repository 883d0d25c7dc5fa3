/-! ## by hand: valley of the class (wip/p2/gen9k.py) -/
theorem wk_long {r : Option cm_V} (h : sv_r0 (some (.inr none)) r) : ∃ x, r = some (.inr (.inl x)) := by
  match r, h with
  | some (.inr (.inl x)), _ => exact ⟨x, rfl⟩
section AW6
variable {C : Nat → List cm_V → cm_W → cm_O → Prop} {y pc : Nat} {lv : cm_L} {st : List cm_V} {w : cm_W} {Q : cm_O → Prop}
theorem aw_tsw {d lo hi v o : Int} {os : Array Int} {len t : Nat} {x : Int32} (hd : decode (ia_code y) pc = .ok (.tableswitch d lo hi os, len)) (hx : x.toInt = v) (h1 : lo ≤ v) (h2 : v ≤ hi) (ho : ia_at os.toList (v - lo).toNat = some o) (ht : Int.add (Int.ofNat pc) o = .ofNat t) (k : cm_X C y t lv st w Q) : cm_X C y pc lv (.inl x :: st) w Q := by
  refine aw_jmp hd ?_ ht k
  show cm_tsw d lo hi os pc lv (.inl x :: st) w = _
  unfold cm_tsw
  show (match decide (x.toInt < lo) || decide (hi < x.toInt) with
    | true => cm_jmp d pc lv st w
    | false => (match ia_at os.toList (x.toInt - lo).toNat with
      | some o => cm_jmp o pc lv st w
      | none => none)) = _
  rw [hx, decide_eq_false (show ¬ v < lo by omega), decide_eq_false (show ¬ hi < v by omega)]
  show (match ia_at os.toList (v - lo).toNat with
      | some o => cm_jmp o pc lv st w
      | none => none) = _
  rw [ho]
theorem aw_tsd {d lo hi v : Int} {os : Array Int} {len t : Nat} {x : Int32} (hd : decode (ia_code y) pc = .ok (.tableswitch d lo hi os, len)) (hx : x.toInt = v) (h1 : v < lo ∨ hi < v) (ht : Int.add (Int.ofNat pc) d = .ofNat t) (k : cm_X C y t lv st w Q) : cm_X C y pc lv (.inl x :: st) w Q := by
  refine aw_jmp hd ?_ ht k
  show cm_tsw d lo hi os pc lv (.inl x :: st) w = _
  unfold cm_tsw
  show (match decide (x.toInt < lo) || decide (hi < x.toInt) with
    | true => cm_jmp d pc lv st w
    | false => (match ia_at os.toList (x.toInt - lo).toNat with
      | some o => cm_jmp o pc lv st w
      | none => none)) = _
  have e : (decide (x.toInt < lo) || decide (hi < x.toInt)) = true := by
    rw [hx, Bool.or_eq_true]
    rcases h1 with h1 | h1
    · exact .inl (decide_eq_true h1)
    · exact .inr (decide_eq_true h1)
  rw [e]
end AW6
set_option maxRecDepth 100000 in
theorem xd_7b9659d2 : decode (ia_code 63) 0 = .ok (.aload_n 0, 1) := fdd_d (by decide +kernel)
set_option maxRecDepth 100000 in
theorem xd_27a577d3 : decode (ia_code 63) 1 = .ok (.getfield 49, 3) := fdd_d (by decide +kernel)
set_option maxRecDepth 100000 in
theorem xf_cd55533c : wk_gf 63 49 2 11 0 = true := by decide +kernel
set_option maxRecDepth 100000 in
theorem xd_94607c29 : decode (ia_code 63) 4 = .ok (.ifCond .ne 16, 3) := fdd_d (by decide +kernel)
set_option maxRecDepth 100000 in
theorem xd_95c5f31e : decode (ia_code 63) 20 = .ok (.iconst 0, 1) := fdd_d (by decide +kernel)
set_option maxRecDepth 100000 in
theorem xd_5b1ab8f8 : decode (ia_code 63) 21 = .ok (.ireturn, 1) := fdd_d (by decide +kernel)
set_option maxRecDepth 100000 in
theorem xr_b99dcc8c : ia_ret 63 = some .boolean := by decide +kernel
set_option maxRecDepth 100000 in
theorem xd_0d2fc17c : decode (ia_code 63) 7 = .ok (.aload_n 0, 1) := fdd_d (by decide +kernel)
set_option maxRecDepth 100000 in
theorem xd_1c4ce029 : decode (ia_code 63) 8 = .ok (.iload_n 1, 1) := fdd_d (by decide +kernel)
set_option maxRecDepth 100000 in
theorem xd_b27f485d : decode (ia_code 63) 9 = .ok (.putfield 49, 3) := fdd_d (by decide +kernel)
set_option maxRecDepth 100000 in
theorem xf_017b273d : wk_pf 63 49 2 11 0 = true := by decide +kernel
set_option maxRecDepth 100000 in
theorem xg_45c7cf51 : sv_g sg 2 11 = sv_top := by decide +kernel
set_option maxRecDepth 100000 in
theorem xd_0d582b03 : decode (ia_code 63) 12 = .ok (.aload_n 0, 1) := fdd_d (by decide +kernel)
set_option maxRecDepth 100000 in
theorem xd_962bc1d7 : decode (ia_code 63) 13 = .ok (.aload_n 0, 1) := fdd_d (by decide +kernel)
set_option maxRecDepth 100000 in
theorem xd_39e1e3ee : decode (ia_code 63) 14 = .ok (.getfield 58, 3) := fdd_d (by decide +kernel)
set_option maxRecDepth 100000 in
theorem xf_dee52514 : wk_gf 63 58 2 6 0 = true := by decide +kernel
set_option maxRecDepth 100000 in
theorem xd_ff6de125 : decode (ia_code 63) 17 = .ok (.putfield 52, 3) := fdd_d (by decide +kernel)
set_option maxRecDepth 100000 in
theorem xf_9ad0ab51 : wk_pf 63 52 2 12 0 = true := by decide +kernel
set_option maxRecDepth 100000 in
theorem xg_aef07452 : sv_g sg 2 12 = sv_top := by decide +kernel
set_option maxRecDepth 100000 in
theorem xm_d45b7eb3 : ia_maxL 63 = 2 := by decide +kernel
set_option maxRecDepth 100000 in
theorem xd_d0edafde : decode (ia_code 184) 0 = .ok (.aload_n 0, 1) := fdd_d (by decide +kernel)
set_option maxRecDepth 100000 in
theorem xd_dfcec48d : decode (ia_code 184) 1 = .ok (.getfield 49, 3) := fdd_d (by decide +kernel)
set_option maxRecDepth 100000 in
theorem xf_33da9ce3 : wk_gf 184 49 2 11 0 = true := by decide +kernel
set_option maxRecDepth 100000 in
theorem xd_a275c911 : decode (ia_code 184) 4 = .ok (.ifCond .ne 7, 3) := fdd_d (by decide +kernel)
set_option maxRecDepth 100000 in
theorem xd_5f7358ef : decode (ia_code 184) 11 = .ok (.iconst 0, 1) := fdd_d (by decide +kernel)
set_option maxRecDepth 100000 in
theorem xd_b3b7c274 : decode (ia_code 184) 12 = .ok (.ireturn, 1) := fdd_d (by decide +kernel)
set_option maxRecDepth 100000 in
theorem xr_2eac88e6 : ia_ret 184 = some .boolean := by decide +kernel
set_option maxRecDepth 100000 in
theorem xd_2d31003c : decode (ia_code 184) 7 = .ok (.iconst 1, 1) := fdd_d (by decide +kernel)
set_option maxRecDepth 100000 in
theorem xd_bbd626a9 : decode (ia_code 184) 8 = .ok (.goto 4, 3) := fdd_d (by decide +kernel)
set_option maxRecDepth 100000 in
theorem xm_25196642 : ia_maxL 184 = 1 := by decide +kernel
set_option maxRecDepth 100000 in
theorem xd_484db22b : decode (ia_code 189) 0 = .ok (.aload_n 0, 1) := fdd_d (by decide +kernel)
set_option maxRecDepth 100000 in
theorem xd_605b40b6 : decode (ia_code 189) 1 = .ok (.getfield 64, 3) := fdd_d (by decide +kernel)
set_option maxRecDepth 100000 in
theorem xf_47306fc9 : wk_gf 189 64 2 5 0 = true := by decide +kernel
set_option maxRecDepth 100000 in
theorem xd_1cb4b75e : decode (ia_code 189) 4 = .ok (.iconst 3, 1) := fdd_d (by decide +kernel)
set_option maxRecDepth 100000 in
theorem xd_3f822996 : decode (ia_code 189) 5 = .ok (.if_icmp .eq 12, 3) := fdd_d (by decide +kernel)
set_option maxRecDepth 100000 in
theorem xd_5225f117 : decode (ia_code 189) 17 = .ok (.aload_n 0, 1) := fdd_d (by decide +kernel)
set_option maxRecDepth 100000 in
theorem xd_3751656f : decode (ia_code 189) 18 = .ok (.getfield 77, 3) := fdd_d (by decide +kernel)
set_option maxRecDepth 100000 in
theorem xf_98967174 : wk_gf 189 77 2 9 0 = true := by decide +kernel
set_option maxRecDepth 100000 in
theorem xd_8092d098 : decode (ia_code 189) 21 = .ok (.iload_n 1, 1) := fdd_d (by decide +kernel)
set_option maxRecDepth 100000 in
theorem xd_22f04202 : decode (ia_code 189) 22 = .ok (.if_icmp .lt 11, 3) := fdd_d (by decide +kernel)
set_option maxRecDepth 100000 in
theorem xd_8b429c8b : decode (ia_code 189) 33 = .ok (.aload_n 0, 1) := fdd_d (by decide +kernel)
set_option maxRecDepth 100000 in
theorem xd_1b0c3253 : decode (ia_code 189) 34 = .ok (.iconst 2, 1) := fdd_d (by decide +kernel)
set_option maxRecDepth 100000 in
theorem xl_726d40f2 : ia_pl (ia_cls 189) 80 = some (1, 63, 0, 0, 738) := by decide +kernel
set_option maxRecDepth 100000 in
theorem xn_b5464d7d : ia_na 63 = 2 := by decide +kernel
set_option maxRecDepth 100000 in
theorem xc_49a83f99 : ia_mc 63 = 0 ∧ ia_ms 63 = 0 := ⟨by decide +kernel, by decide +kernel⟩
set_option maxRecDepth 100000 in
theorem xv_780065b9 : cm_rcv 63 [.inr (.inr (some 2))] = true := by decide +kernel
set_option maxRecDepth 100000 in
theorem xd_6858d3b4 : decode (ia_code 189) 35 = .ok (.invokevirtual 80, 3) := fdd_d (by decide +kernel)
set_option maxRecDepth 100000 in
theorem xd_3cfdab2b : decode (ia_code 189) 38 = .ok (.pop, 1) := fdd_d (by decide +kernel)
set_option maxRecDepth 100000 in
theorem xd_666d0c44 : decode (ia_code 189) 39 = .ok (.aload_n 0, 1) := fdd_d (by decide +kernel)
set_option maxRecDepth 100000 in
theorem xl_be386658 : ia_pl (ia_cls 189) 87 = some (1, 184, 0, 0, 756) := by decide +kernel
set_option maxRecDepth 100000 in
theorem xn_59a494c6 : ia_na 184 = 1 := by decide +kernel
set_option maxRecDepth 100000 in
theorem xc_7b6444b6 : ia_mc 184 = 0 ∧ ia_ms 184 = 0 := ⟨by decide +kernel, by decide +kernel⟩
set_option maxRecDepth 100000 in
theorem xv_433dc8e2 : cm_rcv 184 [.inr (.inr (some 2))] = true := by decide +kernel
set_option maxRecDepth 100000 in
theorem xd_3f2cfabb : decode (ia_code 189) 40 = .ok (.invokevirtual 87, 3) := fdd_d (by decide +kernel)
set_option maxRecDepth 100000 in
theorem xd_f8817d60 : decode (ia_code 189) 43 = .ok (.ifCond .ne 5, 3) := fdd_d (by decide +kernel)
set_option maxRecDepth 100000 in
theorem xd_cc06d1e7 : decode (ia_code 189) 48 = .ok (.aload_n 0, 1) := fdd_d (by decide +kernel)
set_option maxRecDepth 100000 in
theorem xd_5f53c528 : decode (ia_code 189) 49 = .ok (.getfield 77, 3) := fdd_d (by decide +kernel)
set_option maxRecDepth 100000 in
theorem xd_77ce6333 : decode (ia_code 189) 52 = .ok (.istore_n 3, 1) := fdd_d (by decide +kernel)
set_option maxRecDepth 100000 in
theorem xm_ade3567c : ia_maxL 189 = 4 := by decide +kernel
set_option maxRecDepth 100000 in
theorem xd_3b7fcedb : decode (ia_code 189) 53 = .ok (.aload_n 0, 1) := fdd_d (by decide +kernel)
set_option maxRecDepth 100000 in
theorem xg_64624148 : sv_g sg 2 4 = (2147483648, 2147484588) := by decide +kernel
set_option maxRecDepth 100000 in
theorem xs_61_078b38e8 {w : cm_W} (hG : sv_w sg w) : ∃ w' : cm_W, cm_C 2 61 [.inr (.inr (some 2))] w (none, w') ∧ sv_w sg w' ∧ (∀ k i, ¬ ((k = 2 ∧ 4 ≤ i ∧ i ≤ 10)) → w'.1 k i = w.1 k i ∧ w'.2 k i = w.2 k i) ∧ ((True)) := by
  obtain ⟨r, w', hC, hG', hF, q, hq, hr, hp, hs⟩ := wk_use (d := 2) sm_61_078b38e8_ok (by decide) (as := [.inr (.inr (some 2))]) (w := w) ⟨rfl, trivial⟩ (fun f hf => by
    rcases List.mem_cons.mp hf with rfl | hf
    · exact ⟨(by have h9 := hG 2 4; rw [xg_64624148] at h9; exact h9), .inr (Nat.le_refl _), .inl rfl⟩
    cases hf) hG
  have hfr : ∀ k i, ¬ ((k = 2 ∧ 4 ≤ i ∧ i ≤ 10)) → w'.1 k i = w.1 k i ∧ w'.2 k i = w.2 k i := fun k i hki => hF k i (fun ⟨r, z, z1, z2, z3⟩ => by
    simp only [sm_61_078b38e8, List.mem_cons, List.not_mem_nil, or_false] at z
    rcases z with rfl
    all_goals (simp only at z1 z2 z3; omega))
  simp only [sm_61_078b38e8, List.mem_cons, List.not_mem_nil, or_false] at hq
  rcases hq with rfl | rfl
  · obtain rfl : r = none := by
      match r, hr with
      | none, _ => rfl
    exact ⟨w', hC, hG', hfr, (trivial)⟩
  · obtain rfl : r = none := by
      match r, hr with
      | none, _ => rfl
    exact ⟨w', hC, hG', hfr, (trivial)⟩
set_option maxRecDepth 100000 in
theorem xl_14b5b052 : ia_pl (ia_cls 189) 55 = some (1, 61, 0, 0, 718) := by decide +kernel
set_option maxRecDepth 100000 in
theorem xn_568f4fa7 : ia_na 61 = 1 := by decide +kernel
set_option maxRecDepth 100000 in
theorem xc_1d38a579 : ia_mc 61 = 0 ∧ ia_ms 61 = 0 := ⟨by decide +kernel, by decide +kernel⟩
set_option maxRecDepth 100000 in
theorem xv_65cfb41b : cm_rcv 61 [.inr (.inr (some 2))] = true := by decide +kernel
set_option maxRecDepth 100000 in
theorem xd_0616def4 : decode (ia_code 189) 54 = .ok (.invokevirtual 55, 3) := fdd_d (by decide +kernel)
set_option maxRecDepth 100000 in
theorem xd_2680c6f5 : decode (ia_code 189) 57 = .ok (.iload_n 3, 1) := fdd_d (by decide +kernel)
set_option maxRecDepth 100000 in
theorem xd_5c1d103d : decode (ia_code 189) 58 = .ok (.ireturn, 1) := fdd_d (by decide +kernel)
set_option maxRecDepth 100000 in
theorem xr_df255d1e : ia_ret 189 = some .int := by decide +kernel
set_option maxRecDepth 100000 in
theorem xd_65b20ee7 : decode (ia_code 189) 46 = .ok (.iconst (-1), 1) := fdd_d (by decide +kernel)
set_option maxRecDepth 100000 in
theorem xd_0720fbd3 : decode (ia_code 189) 47 = .ok (.ireturn, 1) := fdd_d (by decide +kernel)
set_option maxRecDepth 100000 in
theorem xd_e7ad8bd6 : decode (ia_code 189) 25 = .ok (.aload_n 0, 1) := fdd_d (by decide +kernel)
set_option maxRecDepth 100000 in
theorem xd_82d67786 : decode (ia_code 189) 26 = .ok (.getfield 77, 3) := fdd_d (by decide +kernel)
set_option maxRecDepth 100000 in
theorem xd_c78be96e : decode (ia_code 189) 29 = .ok (.iload_n 2, 1) := fdd_d (by decide +kernel)
set_option maxRecDepth 100000 in
theorem xd_e7ae1253 : decode (ia_code 189) 30 = .ok (.if_icmp .le 9, 3) := fdd_d (by decide +kernel)
set_option maxRecDepth 100000 in
theorem xd_48f4f10d : decode (ia_code 189) 8 = .ok (.aload_n 0, 1) := fdd_d (by decide +kernel)
set_option maxRecDepth 100000 in
theorem xd_94be35fe : decode (ia_code 189) 9 = .ok (.iconst 1, 1) := fdd_d (by decide +kernel)
set_option maxRecDepth 100000 in
theorem xd_b8746d3e : decode (ia_code 189) 10 = .ok (.invokevirtual 80, 3) := fdd_d (by decide +kernel)
set_option maxRecDepth 100000 in
theorem xd_8ca3d4b2 : decode (ia_code 189) 13 = .ok (.pop, 1) := fdd_d (by decide +kernel)
set_option maxRecDepth 100000 in
theorem xd_2ebb84c5 : decode (ia_code 189) 14 = .ok (.goto 25, 3) := fdd_d (by decide +kernel)
set_option maxRecDepth 100000 in
theorem xd_a32553b0 : decode (ia_code 234) 0 = .ok (.aload_n 0, 1) := fdd_d (by decide +kernel)
set_option maxRecDepth 100000 in
theorem xd_058633e9 : decode (ia_code 234) 1 = .ok (.getfield 15, 3) := fdd_d (by decide +kernel)
set_option maxRecDepth 100000 in
theorem xf_cf5804fc : wk_gf 234 15 32 1 (18 + 3) = true := by decide +kernel
set_option maxRecDepth 100000 in
theorem xd_2430a8f8 : decode (ia_code 234) 4 = .ok (.getfield 112, 3) := fdd_d (by decide +kernel)
set_option maxRecDepth 100000 in
theorem xf_08497d06 : wk_gf 234 112 18 4 0 = true := by decide +kernel
set_option maxRecDepth 100000 in
theorem xd_67cb804e : decode (ia_code 234) 7 = .ok (.istore_n 1, 1) := fdd_d (by decide +kernel)
set_option maxRecDepth 100000 in
theorem xm_e73fdda6 : ia_maxL 234 = 2 := by decide +kernel
set_option maxRecDepth 100000 in
theorem xd_c4ffea4b : decode (ia_code 234) 8 = .ok (.iload_n 1, 1) := fdd_d (by decide +kernel)
set_option maxRecDepth 100000 in
theorem xd_3a891e4b : decode (ia_code 234) 9 = .ok (.iconst 4, 1) := fdd_d (by decide +kernel)
set_option maxRecDepth 100000 in
theorem xd_fa0341c6 : decode (ia_code 234) 10 = .ok (.if_icmp .lt 12, 3) := fdd_d (by decide +kernel)
set_option maxRecDepth 100000 in
theorem xd_f6223155 : decode (ia_code 234) 22 = .ok (.aload_n 0, 1) := fdd_d (by decide +kernel)
set_option maxRecDepth 100000 in
theorem xd_d1cd8905 : decode (ia_code 234) 23 = .ok (.getfield 9, 3) := fdd_d (by decide +kernel)
set_option maxRecDepth 100000 in
theorem xf_edb596be : wk_gf 234 9 32 0 (2 + 3) = true := by decide +kernel
set_option maxRecDepth 100000 in
theorem xl_209b9f98 : ia_pl (ia_cls 234) 72 = some (1, 61, 0, 0, 751) := by decide +kernel
set_option maxRecDepth 100000 in
theorem xd_c5168135 : decode (ia_code 234) 26 = .ok (.invokevirtual 72, 3) := fdd_d (by decide +kernel)
set_option maxRecDepth 100000 in
theorem xd_807e4b4e : decode (ia_code 234) 29 = .ok (.aload_n 0, 1) := fdd_d (by decide +kernel)
set_option maxRecDepth 100000 in
theorem xd_57c371f7 : decode (ia_code 234) 30 = .ok (.getfield 15, 3) := fdd_d (by decide +kernel)
set_option maxRecDepth 100000 in
theorem xd_5393d178 : decode (ia_code 234) 33 = .ok (.getfield 115, 3) := fdd_d (by decide +kernel)
set_option maxRecDepth 100000 in
theorem xf_8db03828 : wk_gf 234 115 18 8 (20 + 3) = true := by decide +kernel
set_option maxRecDepth 100000 in
theorem xd_10380f3c : decode (ia_code 234) 36 = .ok (.iload_n 1, 1) := fdd_d (by decide +kernel)
set_option maxRecDepth 100000 in
theorem xd_ec281f35 : decode (ia_code 234) 37 = .ok (.aload_n 0, 1) := fdd_d (by decide +kernel)
set_option maxRecDepth 100000 in
theorem xs_240_8c93d169 {w : cm_W} (hG : sv_w sg w) : ∃ x : Int64, ∃ w' : cm_W, cm_C 3 240 [.inr (.inr (some 32))] w (some (.inr (.inl x)), w') ∧ sv_w sg w' ∧ (∀ k i, ¬ ((k = 2 ∧ 4 ≤ i ∧ i ≤ 12)) → w'.1 k i = w.1 k i ∧ w'.2 k i = w.2 k i) ∧ ((True)) := by
  obtain ⟨r, w', hC, hG', hF, q, hq, hr, hp, hs⟩ := wk_use (d := 3) sm_240_8c93d169_ok (by decide) (as := [.inr (.inr (some 32))]) (w := w) ⟨rfl, trivial⟩ (fun f hf => by
    cases hf) hG
  have hfr : ∀ k i, ¬ ((k = 2 ∧ 4 ≤ i ∧ i ≤ 12)) → w'.1 k i = w.1 k i ∧ w'.2 k i = w.2 k i := fun k i hki => hF k i (fun ⟨r, z, z1, z2, z3⟩ => by
    simp only [sm_240_8c93d169, List.mem_cons, List.not_mem_nil, or_false] at z
    rcases z with rfl
    all_goals (simp only at z1 z2 z3; omega))
  simp only [sm_240_8c93d169, List.mem_cons, List.not_mem_nil, or_false] at hq
  rcases hq with rfl
  · obtain ⟨x, rfl⟩ := wk_long hr
    exact ⟨x, w', hC, hG', hfr, (trivial)⟩
set_option maxRecDepth 100000 in
theorem xl_93467fd1 : ia_pl (ia_cls 234) 98 = some (1, 240, 0, 0, 769) := by decide +kernel
set_option maxRecDepth 100000 in
theorem xn_ea0ee8e0 : ia_na 240 = 1 := by decide +kernel
set_option maxRecDepth 100000 in
theorem xc_46748db1 : ia_mc 240 = 0 ∧ ia_ms 240 = 0 := ⟨by decide +kernel, by decide +kernel⟩
set_option maxRecDepth 100000 in
theorem xv_98e22893 : cm_rcv 240 [.inr (.inr (some 32))] = true := by decide +kernel
set_option maxRecDepth 100000 in
theorem xd_0a7f4404 : decode (ia_code 234) 38 = .ok (.invokevirtual 98, 3) := fdd_d (by decide +kernel)
set_option maxRecDepth 100000 in
theorem xd_41a00513 : decode (ia_code 234) 41 = .ok (.lastore, 1) := fdd_d (by decide +kernel)
set_option maxRecDepth 100000 in
theorem xf_4834024e : aw_lar 20 4 = true := by decide +kernel
set_option maxRecDepth 100000 in
theorem xd_461f6305 : decode (ia_code 234) 42 = .ok (.aload_n 0, 1) := fdd_d (by decide +kernel)
set_option maxRecDepth 100000 in
theorem xd_baedbc82 : decode (ia_code 234) 43 = .ok (.getfield 15, 3) := fdd_d (by decide +kernel)
set_option maxRecDepth 100000 in
theorem xd_b45f6306 : decode (ia_code 234) 46 = .ok (.getfield 118, 3) := fdd_d (by decide +kernel)
set_option maxRecDepth 100000 in
theorem xf_433b08b2 : wk_gf 234 118 18 13 (25 + 3) = true := by decide +kernel
set_option maxRecDepth 100000 in
theorem xd_5720e3c3 : decode (ia_code 234) 49 = .ok (.iload_n 1, 1) := fdd_d (by decide +kernel)
set_option maxRecDepth 100000 in
theorem xd_2aacd5cb : decode (ia_code 234) 50 = .ok (.aload_n 0, 1) := fdd_d (by decide +kernel)
set_option maxRecDepth 100000 in
theorem xd_c6a6b9a2 : decode (ia_code 234) 51 = .ok (.getfield 9, 3) := fdd_d (by decide +kernel)
set_option maxRecDepth 100000 in
theorem xd_5a0edb62 : decode (ia_code 234) 54 = .ok (.iconst 1, 1) := fdd_d (by decide +kernel)
set_option maxRecDepth 100000 in
theorem xd_2a9e5d70 : decode (ia_code 234) 55 = .ok (.bipush 60, 2) := fdd_d (by decide +kernel)
set_option maxRecDepth 100000 in
theorem xl_fb991d45 : ia_pl (ia_cls 234) 75 = some (1, 189, 0, 0, 752) := by decide +kernel
set_option maxRecDepth 100000 in
theorem xn_4f3a315b : ia_na 189 = 3 := by decide +kernel
set_option maxRecDepth 100000 in
theorem xc_18628866 : ia_mc 189 = 0 ∧ ia_ms 189 = 0 := ⟨by decide +kernel, by decide +kernel⟩
set_option maxRecDepth 100000 in
theorem xv_017ac5ff : cm_rcv 189 [.inr (.inr (some 2))] = true := by decide +kernel
set_option maxRecDepth 100000 in
theorem xd_63e1241a : decode (ia_code 234) 57 = .ok (.invokevirtual 75, 3) := fdd_d (by decide +kernel)
set_option maxRecDepth 100000 in
theorem xd_817de34f : decode (ia_code 234) 60 = .ok (.iastore, 1) := fdd_d (by decide +kernel)
set_option maxRecDepth 100000 in
theorem xf_367ef56a : wk_ar 25 50 4 = true := by decide +kernel
set_option maxRecDepth 100000 in
theorem xh_6cf807e2 : ∀ i, i < 4 → sv_g sg 25 i = sv_top := by decide +kernel
set_option maxRecDepth 100000 in
theorem xd_e9c19637 : decode (ia_code 234) 61 = .ok (.aload_n 0, 1) := fdd_d (by decide +kernel)
set_option maxRecDepth 100000 in
theorem xd_0a2c67e3 : decode (ia_code 234) 62 = .ok (.getfield 15, 3) := fdd_d (by decide +kernel)
set_option maxRecDepth 100000 in
theorem xd_1094a8a3 : decode (ia_code 234) 65 = .ok (.getfield 121, 3) := fdd_d (by decide +kernel)
set_option maxRecDepth 100000 in
theorem xf_1db718ed : wk_gf 234 121 18 14 (26 + 3) = true := by decide +kernel
set_option maxRecDepth 100000 in
theorem xd_1568c518 : decode (ia_code 234) 68 = .ok (.iload_n 1, 1) := fdd_d (by decide +kernel)
set_option maxRecDepth 100000 in
theorem xd_e978d511 : decode (ia_code 234) 69 = .ok (.aload_n 0, 1) := fdd_d (by decide +kernel)
set_option maxRecDepth 100000 in
theorem xd_d7e5fad8 : decode (ia_code 234) 70 = .ok (.getfield 9, 3) := fdd_d (by decide +kernel)
set_option maxRecDepth 100000 in
theorem xd_ef211f7b : decode (ia_code 234) 73 = .ok (.iconst 0, 1) := fdd_d (by decide +kernel)
set_option maxRecDepth 100000 in
theorem xd_4218ae4b : decode (ia_code 234) 74 = .ok (.iconst 5, 1) := fdd_d (by decide +kernel)
set_option maxRecDepth 100000 in
theorem xd_06ef33a8 : decode (ia_code 234) 75 = .ok (.invokevirtual 75, 3) := fdd_d (by decide +kernel)
set_option maxRecDepth 100000 in
theorem xd_b3a78ef9 : decode (ia_code 234) 78 = .ok (.iastore, 1) := fdd_d (by decide +kernel)
set_option maxRecDepth 100000 in
theorem xf_8bb499a4 : wk_ar 26 50 4 = true := by decide +kernel
set_option maxRecDepth 100000 in
theorem xh_1b66d512 : ∀ i, i < 4 → sv_g sg 26 i = sv_top := by decide +kernel
set_option maxRecDepth 100000 in
theorem xd_685db036 : decode (ia_code 234) 79 = .ok (.aload_n 0, 1) := fdd_d (by decide +kernel)
set_option maxRecDepth 100000 in
theorem xd_f0bdb1b3 : decode (ia_code 234) 80 = .ok (.getfield 15, 3) := fdd_d (by decide +kernel)
set_option maxRecDepth 100000 in
theorem xd_0104d1ed : decode (ia_code 234) 83 = .ok (.iload_n 1, 1) := fdd_d (by decide +kernel)
set_option maxRecDepth 100000 in
theorem xd_c198d303 : decode (ia_code 234) 84 = .ok (.iconst 1, 1) := fdd_d (by decide +kernel)
set_option maxRecDepth 100000 in
theorem xd_afc2c9c0 : decode (ia_code 234) 85 = .ok (.iadd, 1) := fdd_d (by decide +kernel)
set_option maxRecDepth 100000 in
theorem xd_02909fcc : decode (ia_code 234) 86 = .ok (.putfield 112, 3) := fdd_d (by decide +kernel)
set_option maxRecDepth 100000 in
theorem xf_463a354c : wk_pf 234 112 18 4 0 = true := by decide +kernel
set_option maxRecDepth 100000 in
theorem xd_8b48bbff : decode (ia_code 234) 89 = .ok (.aload_n 0, 1) := fdd_d (by decide +kernel)
set_option maxRecDepth 100000 in
theorem xd_903505c9 : decode (ia_code 234) 90 = .ok (.getfield 9, 3) := fdd_d (by decide +kernel)
set_option maxRecDepth 100000 in
theorem xl_d4769eac : ia_pl (ia_cls 234) 82 = some (1, 184, 0, 0, 760) := by decide +kernel
set_option maxRecDepth 100000 in
theorem xd_9db42333 : decode (ia_code 234) 93 = .ok (.invokevirtual 82, 3) := fdd_d (by decide +kernel)
set_option maxRecDepth 100000 in
theorem xd_0ce70d48 : decode (ia_code 234) 96 = .ok (.ireturn, 1) := fdd_d (by decide +kernel)
set_option maxRecDepth 100000 in
theorem xr_702d7d21 : ia_ret 234 = some .boolean := by decide +kernel
set_option maxRecDepth 100000 in
theorem xd_354f72a9 : decode (ia_code 234) 13 = .ok (.aload_n 0, 1) := fdd_d (by decide +kernel)
set_option maxRecDepth 100000 in
theorem xd_d5380821 : decode (ia_code 234) 14 = .ok (.getfield 9, 3) := fdd_d (by decide +kernel)
set_option maxRecDepth 100000 in
theorem xd_abca58c1 : decode (ia_code 234) 17 = .ok (.iconst 4, 1) := fdd_d (by decide +kernel)
set_option maxRecDepth 100000 in
theorem xl_297f1dc6 : ia_pl (ia_cls 234) 69 = some (1, 63, 0, 0, 750) := by decide +kernel
set_option maxRecDepth 100000 in
theorem xd_db860ec3 : decode (ia_code 234) 18 = .ok (.invokevirtual 69, 3) := fdd_d (by decide +kernel)
set_option maxRecDepth 100000 in
theorem xd_e53b0050 : decode (ia_code 234) 21 = .ok (.ireturn, 1) := fdd_d (by decide +kernel)
set_option maxRecDepth 100000 in
theorem xd_4438f527 : decode (ia_code 235) 0 = .ok (.aload_n 0, 1) := fdd_d (by decide +kernel)
set_option maxRecDepth 100000 in
theorem xd_6f7483d1 : decode (ia_code 235) 1 = .ok (.getfield 9, 3) := fdd_d (by decide +kernel)
set_option maxRecDepth 100000 in
theorem xf_76c67c6a : wk_gf 235 9 32 0 (2 + 3) = true := by decide +kernel
set_option maxRecDepth 100000 in
theorem xd_f2584103 : decode (ia_code 235) 4 = .ok (.getfield 48, 3) := fdd_d (by decide +kernel)
set_option maxRecDepth 100000 in
theorem xf_fb245953 : wk_gf 235 48 2 8 0 = true := by decide +kernel
set_option maxRecDepth 100000 in
theorem xd_54d0379e : decode (ia_code 235) 7 = .ok (.tableswitch 67 0 5 #[37, 42, 47, 52, 57, 62], 37) := fdd_d (by decide +kernel)
set_option maxRecDepth 100000 in
theorem xd_9d47a316 : decode (ia_code 235) 74 = .ok (.aload_n 0, 1) := fdd_d (by decide +kernel)
set_option maxRecDepth 100000 in
theorem xd_3e73fcbd : decode (ia_code 235) 75 = .ok (.getfield 9, 3) := fdd_d (by decide +kernel)
set_option maxRecDepth 100000 in
theorem xd_b5671b1c : decode (ia_code 235) 78 = .ok (.iconst 1, 1) := fdd_d (by decide +kernel)
set_option maxRecDepth 100000 in
theorem xl_2798f517 : ia_pl (ia_cls 235) 69 = some (1, 63, 0, 0, 750) := by decide +kernel
set_option maxRecDepth 100000 in
theorem xd_e534ce1b : decode (ia_code 235) 79 = .ok (.invokevirtual 69, 3) := fdd_d (by decide +kernel)
set_option maxRecDepth 100000 in
theorem xd_acbdfd3d : decode (ia_code 235) 82 = .ok (.ireturn, 1) := fdd_d (by decide +kernel)
set_option maxRecDepth 100000 in
theorem xr_f78bb662 : ia_ret 235 = some .boolean := by decide +kernel
set_option maxRecDepth 100000 in
theorem xd_c5590a3e : decode (ia_code 235) 44 = .ok (.aload_n 0, 1) := fdd_d (by decide +kernel)
set_option maxRecDepth 100000 in
theorem xs_238_8c93d169 {w : cm_W} (hG : sv_w sg w) : ∃ x : Int32, ∃ w' : cm_W, cm_C 4 238 [.inr (.inr (some 32))] w (some (.inl x), w') ∧ sv_w sg w' ∧ (∀ k i, ¬ ((k = 2 ∧ 4 ≤ i ∧ i ≤ 12) ∨ (k = 18 ∧ i = 0) ∨ (k = 32 ∧ i = 2)) → w'.1 k i = w.1 k i ∧ w'.2 k i = w.2 k i) ∧ ((x.toInt = 0) ∨ (x.toInt = 1)) := by
  obtain ⟨r, w', hC, hG', hF, q, hq, hr, hp, hs⟩ := wk_use (d := 4) sm_238_8c93d169_ok (by decide) (as := [.inr (.inr (some 32))]) (w := w) ⟨rfl, trivial⟩ (fun f hf => by
    cases hf) hG
  have hfr : ∀ k i, ¬ ((k = 2 ∧ 4 ≤ i ∧ i ≤ 12) ∨ (k = 18 ∧ i = 0) ∨ (k = 32 ∧ i = 2)) → w'.1 k i = w.1 k i ∧ w'.2 k i = w.2 k i := fun k i hki => hF k i (fun ⟨r, z, z1, z2, z3⟩ => by
    simp only [sm_238_8c93d169, List.mem_cons, List.not_mem_nil, or_false] at z
    rcases z with rfl | rfl | rfl
    all_goals (simp only at z1 z2 z3; omega))
  simp only [sm_238_8c93d169, List.mem_cons, List.not_mem_nil, or_false] at hq
  rcases hq with rfl | rfl
  · obtain ⟨x, rfl, hx⟩ := wk_int hr
    have hx := hb_in hx
    exact ⟨x, w', hC, hG', hfr, Or.inl (by omega)⟩
  · obtain ⟨x, rfl, hx⟩ := wk_int hr
    have hx := hb_in hx
    exact ⟨x, w', hC, hG', hfr, Or.inr ((by omega))⟩
set_option maxRecDepth 100000 in
theorem xl_2ce679f1 : ia_pl (ia_cls 235) 51 = some (1, 238, 0, 0, 746) := by decide +kernel
set_option maxRecDepth 100000 in
theorem xn_c77b9399 : ia_na 238 = 1 := by decide +kernel
set_option maxRecDepth 100000 in
theorem xc_5aa08299 : ia_mc 238 = 0 ∧ ia_ms 238 = 0 := ⟨by decide +kernel, by decide +kernel⟩
set_option maxRecDepth 100000 in
theorem xv_fb2bee1e : cm_rcv 238 [.inr (.inr (some 32))] = true := by decide +kernel
set_option maxRecDepth 100000 in
theorem xd_890d5c26 : decode (ia_code 235) 45 = .ok (.invokevirtual 51, 3) := fdd_d (by decide +kernel)
set_option maxRecDepth 100000 in
theorem xd_88694036 : decode (ia_code 235) 48 = .ok (.ireturn, 1) := fdd_d (by decide +kernel)
set_option maxRecDepth 100000 in
theorem xd_5ecf025f : decode (ia_code 235) 49 = .ok (.aload_n 0, 1) := fdd_d (by decide +kernel)
set_option maxRecDepth 100000 in
theorem xs_239_8c93d169 {w : cm_W} (hG : sv_w sg w) : ∃ x : Int32, ∃ w' : cm_W, cm_C 4 239 [.inr (.inr (some 32))] w (some (.inl x), w') ∧ sv_w sg w' ∧ (∀ k i, ¬ ((k = 2 ∧ 4 ≤ i ∧ i ≤ 12) ∨ (k = 18 ∧ 1 ≤ i ∧ i ≤ 2) ∨ (k = 32 ∧ i = 3)) → w'.1 k i = w.1 k i ∧ w'.2 k i = w.2 k i) ∧ ((x.toInt = 0) ∨ (x.toInt = 1)) := by
  obtain ⟨r, w', hC, hG', hF, q, hq, hr, hp, hs⟩ := wk_use (d := 4) sm_239_8c93d169_ok (by decide) (as := [.inr (.inr (some 32))]) (w := w) ⟨rfl, trivial⟩ (fun f hf => by
    cases hf) hG
  have hfr : ∀ k i, ¬ ((k = 2 ∧ 4 ≤ i ∧ i ≤ 12) ∨ (k = 18 ∧ 1 ≤ i ∧ i ≤ 2) ∨ (k = 32 ∧ i = 3)) → w'.1 k i = w.1 k i ∧ w'.2 k i = w.2 k i := fun k i hki => hF k i (fun ⟨r, z, z1, z2, z3⟩ => by
    simp only [sm_239_8c93d169, List.mem_cons, List.not_mem_nil, or_false] at z
    rcases z with rfl | rfl | rfl
    all_goals (simp only at z1 z2 z3; omega))
  simp only [sm_239_8c93d169, List.mem_cons, List.not_mem_nil, or_false] at hq
  rcases hq with rfl | rfl
  · obtain ⟨x, rfl, hx⟩ := wk_int hr
    have hx := hb_in hx
    exact ⟨x, w', hC, hG', hfr, Or.inl (by omega)⟩
  · obtain ⟨x, rfl, hx⟩ := wk_int hr
    have hx := hb_in hx
    exact ⟨x, w', hC, hG', hfr, Or.inr ((by omega))⟩
set_option maxRecDepth 100000 in
theorem xl_bad7ebb4 : ia_pl (ia_cls 235) 54 = some (1, 239, 0, 0, 761) := by decide +kernel
set_option maxRecDepth 100000 in
theorem xn_fa1bba29 : ia_na 239 = 1 := by decide +kernel
set_option maxRecDepth 100000 in
theorem xc_fcb341fd : ia_mc 239 = 0 ∧ ia_ms 239 = 0 := ⟨by decide +kernel, by decide +kernel⟩
set_option maxRecDepth 100000 in
theorem xv_0af1ebb4 : cm_rcv 239 [.inr (.inr (some 32))] = true := by decide +kernel
set_option maxRecDepth 100000 in
theorem xd_82e954af : decode (ia_code 235) 50 = .ok (.invokevirtual 54, 3) := fdd_d (by decide +kernel)
set_option maxRecDepth 100000 in
theorem xd_c1adaf63 : decode (ia_code 235) 53 = .ok (.ireturn, 1) := fdd_d (by decide +kernel)
set_option maxRecDepth 100000 in
theorem xd_447c6f19 : decode (ia_code 235) 54 = .ok (.aload_n 0, 1) := fdd_d (by decide +kernel)
set_option maxRecDepth 100000 in
theorem xs_237_8c93d169 {w : cm_W} (hG : sv_w sg w) : ∃ x : Int32, ∃ w' : cm_W, cm_C 4 237 [.inr (.inr (some 32))] w (some (.inl x), w') ∧ sv_w sg w' ∧ (∀ k i, ¬ ((k = 2 ∧ 4 ≤ i ∧ i ≤ 12) ∨ (k = 18 ∧ i = 3) ∨ (k = 19 ∧ 0 ≤ i ∧ i ≤ 5) ∨ (k = 22 ∧ 0 ≤ i ∧ i ≤ 5) ∨ (k = 23 ∧ 0 ≤ i ∧ i ≤ 5) ∨ (k = 24 ∧ 0 ≤ i ∧ i ≤ 5)) → w'.1 k i = w.1 k i ∧ w'.2 k i = w.2 k i) ∧ ((x.toInt = 0) ∨ (x.toInt = 1)) := by
  obtain ⟨r, w', hC, hG', hF, q, hq, hr, hp, hs⟩ := wk_use (d := 4) sm_237_8c93d169_ok (by decide) (as := [.inr (.inr (some 32))]) (w := w) ⟨rfl, trivial⟩ (fun f hf => by
    cases hf) hG
  have hfr : ∀ k i, ¬ ((k = 2 ∧ 4 ≤ i ∧ i ≤ 12) ∨ (k = 18 ∧ i = 3) ∨ (k = 19 ∧ 0 ≤ i ∧ i ≤ 5) ∨ (k = 22 ∧ 0 ≤ i ∧ i ≤ 5) ∨ (k = 23 ∧ 0 ≤ i ∧ i ≤ 5) ∨ (k = 24 ∧ 0 ≤ i ∧ i ≤ 5)) → w'.1 k i = w.1 k i ∧ w'.2 k i = w.2 k i := fun k i hki => hF k i (fun ⟨r, z, z1, z2, z3⟩ => by
    simp only [sm_237_8c93d169, List.mem_cons, List.not_mem_nil, or_false] at z
    rcases z with rfl | rfl | rfl | rfl | rfl | rfl
    all_goals (simp only at z1 z2 z3; omega))
  simp only [sm_237_8c93d169, List.mem_cons, List.not_mem_nil, or_false] at hq
  rcases hq with rfl | rfl
  · obtain ⟨x, rfl, hx⟩ := wk_int hr
    have hx := hb_in hx
    exact ⟨x, w', hC, hG', hfr, Or.inl (by omega)⟩
  · obtain ⟨x, rfl, hx⟩ := wk_int hr
    have hx := hb_in hx
    exact ⟨x, w', hC, hG', hfr, Or.inr ((by omega))⟩
set_option maxRecDepth 100000 in
theorem xl_26832527 : ia_pl (ia_cls 235) 57 = some (1, 237, 0, 0, 765) := by decide +kernel
set_option maxRecDepth 100000 in
theorem xn_452b0448 : ia_na 237 = 1 := by decide +kernel
set_option maxRecDepth 100000 in
theorem xc_aef0cec0 : ia_mc 237 = 0 ∧ ia_ms 237 = 0 := ⟨by decide +kernel, by decide +kernel⟩
set_option maxRecDepth 100000 in
theorem xv_a0aac8df : cm_rcv 237 [.inr (.inr (some 32))] = true := by decide +kernel
set_option maxRecDepth 100000 in
theorem xd_08aa4157 : decode (ia_code 235) 55 = .ok (.invokevirtual 57, 3) := fdd_d (by decide +kernel)
set_option maxRecDepth 100000 in
theorem xd_9f4124f6 : decode (ia_code 235) 58 = .ok (.ireturn, 1) := fdd_d (by decide +kernel)
set_option maxRecDepth 100000 in
theorem xd_dfea6778 : decode (ia_code 235) 59 = .ok (.aload_n 0, 1) := fdd_d (by decide +kernel)
set_option maxRecDepth 100000 in
theorem xl_1bfbaf1f : ia_pl (ia_cls 235) 60 = some (1, 234, 0, 0, 786) := by decide +kernel
set_option maxRecDepth 100000 in
theorem xn_028b7e98 : ia_na 234 = 1 := by decide +kernel
set_option maxRecDepth 100000 in
theorem xc_9fb58d2d : ia_mc 234 = 0 ∧ ia_ms 234 = 0 := ⟨by decide +kernel, by decide +kernel⟩
set_option maxRecDepth 100000 in
theorem xv_69b5c060 : cm_rcv 234 [.inr (.inr (some 32))] = true := by decide +kernel
set_option maxRecDepth 100000 in
theorem xd_e2d5b9b2 : decode (ia_code 235) 60 = .ok (.invokevirtual 60, 3) := fdd_d (by decide +kernel)
set_option maxRecDepth 100000 in
theorem xd_f8d50223 : decode (ia_code 235) 63 = .ok (.ireturn, 1) := fdd_d (by decide +kernel)
set_option maxRecDepth 100000 in
theorem xd_1c62c631 : decode (ia_code 235) 64 = .ok (.aload_n 0, 1) := fdd_d (by decide +kernel)
set_option maxRecDepth 100000 in
theorem xs_236_8c93d169 {w : cm_W} (hG : sv_w sg w) : ∃ x : Int32, ∃ w' : cm_W, cm_C 4 236 [.inr (.inr (some 32))] w (some (.inl x), w') ∧ sv_w sg w' ∧ (∀ k i, ¬ ((k = 2 ∧ 4 ≤ i ∧ i ≤ 12) ∨ (k = 18 ∧ i = 5) ∨ (k = 21 ∧ 0 ≤ i ∧ i ≤ 5) ∨ (k = 27 ∧ 0 ≤ i ∧ i ≤ 5)) → w'.1 k i = w.1 k i ∧ w'.2 k i = w.2 k i) ∧ ((x.toInt = 0) ∨ (x.toInt = 1)) := by
  obtain ⟨r, w', hC, hG', hF, q, hq, hr, hp, hs⟩ := wk_use (d := 4) sm_236_8c93d169_ok (by decide) (as := [.inr (.inr (some 32))]) (w := w) ⟨rfl, trivial⟩ (fun f hf => by
    cases hf) hG
  have hfr : ∀ k i, ¬ ((k = 2 ∧ 4 ≤ i ∧ i ≤ 12) ∨ (k = 18 ∧ i = 5) ∨ (k = 21 ∧ 0 ≤ i ∧ i ≤ 5) ∨ (k = 27 ∧ 0 ≤ i ∧ i ≤ 5)) → w'.1 k i = w.1 k i ∧ w'.2 k i = w.2 k i := fun k i hki => hF k i (fun ⟨r, z, z1, z2, z3⟩ => by
    simp only [sm_236_8c93d169, List.mem_cons, List.not_mem_nil, or_false] at z
    rcases z with rfl | rfl | rfl | rfl
    all_goals (simp only at z1 z2 z3; omega))
  simp only [sm_236_8c93d169, List.mem_cons, List.not_mem_nil, or_false] at hq
  rcases hq with rfl | rfl
  · obtain ⟨x, rfl, hx⟩ := wk_int hr
    have hx := hb_in hx
    exact ⟨x, w', hC, hG', hfr, Or.inl (by omega)⟩
  · obtain ⟨x, rfl, hx⟩ := wk_int hr
    have hx := hb_in hx
    exact ⟨x, w', hC, hG', hfr, Or.inr ((by omega))⟩
set_option maxRecDepth 100000 in
theorem xl_2ee1d0c2 : ia_pl (ia_cls 235) 63 = some (1, 236, 0, 0, 790) := by decide +kernel
set_option maxRecDepth 100000 in
theorem xn_784b2df8 : ia_na 236 = 1 := by decide +kernel
set_option maxRecDepth 100000 in
theorem xc_08e30da4 : ia_mc 236 = 0 ∧ ia_ms 236 = 0 := ⟨by decide +kernel, by decide +kernel⟩
set_option maxRecDepth 100000 in
theorem xv_5170cd75 : cm_rcv 236 [.inr (.inr (some 32))] = true := by decide +kernel
set_option maxRecDepth 100000 in
theorem xd_6896ac4a : decode (ia_code 235) 65 = .ok (.invokevirtual 63, 3) := fdd_d (by decide +kernel)
set_option maxRecDepth 100000 in
theorem xd_a63989b6 : decode (ia_code 235) 68 = .ok (.ireturn, 1) := fdd_d (by decide +kernel)
set_option maxRecDepth 100000 in
theorem xd_87f4ce50 : decode (ia_code 235) 69 = .ok (.aload_n 0, 1) := fdd_d (by decide +kernel)
set_option maxRecDepth 100000 in
theorem xs_233_8c93d169 {w : cm_W} (hG : sv_w sg w) : ∃ x : Int32, ∃ w' : cm_W, cm_C 4 233 [.inr (.inr (some 32))] w (some (.inl x), w') ∧ sv_w sg w' ∧ (∀ k i, ¬ ((k = 2 ∧ 4 ≤ i ∧ i ≤ 12) ∨ (k = 18 ∧ i = 6) ∨ (k = 28 ∧ 0 ≤ i ∧ i ≤ 9) ∨ (k = 29 ∧ 0 ≤ i ∧ i ≤ 9) ∨ (k = 30 ∧ 0 ≤ i ∧ i ≤ 9) ∨ (k = 31 ∧ 0 ≤ i ∧ i ≤ 9)) → w'.1 k i = w.1 k i ∧ w'.2 k i = w.2 k i) ∧ ((x.toInt = 0) ∨ (x.toInt = 1)) := by
  obtain ⟨r, w', hC, hG', hF, q, hq, hr, hp, hs⟩ := wk_use (d := 4) sm_233_8c93d169_ok (by decide) (as := [.inr (.inr (some 32))]) (w := w) ⟨rfl, trivial⟩ (fun f hf => by
    cases hf) hG
  have hfr : ∀ k i, ¬ ((k = 2 ∧ 4 ≤ i ∧ i ≤ 12) ∨ (k = 18 ∧ i = 6) ∨ (k = 28 ∧ 0 ≤ i ∧ i ≤ 9) ∨ (k = 29 ∧ 0 ≤ i ∧ i ≤ 9) ∨ (k = 30 ∧ 0 ≤ i ∧ i ≤ 9) ∨ (k = 31 ∧ 0 ≤ i ∧ i ≤ 9)) → w'.1 k i = w.1 k i ∧ w'.2 k i = w.2 k i := fun k i hki => hF k i (fun ⟨r, z, z1, z2, z3⟩ => by
    simp only [sm_233_8c93d169, List.mem_cons, List.not_mem_nil, or_false] at z
    rcases z with rfl | rfl | rfl | rfl | rfl | rfl
    all_goals (simp only at z1 z2 z3; omega))
  simp only [sm_233_8c93d169, List.mem_cons, List.not_mem_nil, or_false] at hq
  rcases hq with rfl | rfl
  · obtain ⟨x, rfl, hx⟩ := wk_int hr
    have hx := hb_in hx
    exact ⟨x, w', hC, hG', hfr, Or.inl (by omega)⟩
  · obtain ⟨x, rfl, hx⟩ := wk_int hr
    have hx := hb_in hx
    exact ⟨x, w', hC, hG', hfr, Or.inr ((by omega))⟩
set_option maxRecDepth 100000 in
theorem xl_07728465 : ia_pl (ia_cls 235) 66 = some (1, 233, 0, 0, 804) := by decide +kernel
set_option maxRecDepth 100000 in
theorem xn_b0aba288 : ia_na 233 = 1 := by decide +kernel
set_option maxRecDepth 100000 in
theorem xc_5b2cc993 : ia_mc 233 = 0 ∧ ia_ms 233 = 0 := ⟨by decide +kernel, by decide +kernel⟩
set_option maxRecDepth 100000 in
theorem xv_d120d2f5 : cm_rcv 233 [.inr (.inr (some 32))] = true := by decide +kernel
set_option maxRecDepth 100000 in
theorem xd_6372a4c3 : decode (ia_code 235) 70 = .ok (.invokevirtual 66, 3) := fdd_d (by decide +kernel)
set_option maxRecDepth 100000 in
theorem xd_effd66e3 : decode (ia_code 235) 73 = .ok (.ireturn, 1) := fdd_d (by decide +kernel)
set_option maxRecDepth 100000 in
theorem xm_4356a5ac : ia_maxL 235 = 1 := by decide +kernel
set_option maxRecDepth 100000 in
theorem xd_6562b62a : decode (ia_code 88) 19 = .ok (.iload_n 1, 1) := fdd_d (by decide +kernel)
set_option maxRecDepth 100000 in
theorem xd_2c82b821 : decode (ia_code 88) 20 = .ok (.sipush 900, 3) := fdd_d (by decide +kernel)
set_option maxRecDepth 100000 in
theorem xd_c281bb92 : decode (ia_code 88) 23 = .ok (.if_icmp .gt 56, 3) := fdd_d (by decide +kernel)
set_option maxRecDepth 100000 in
theorem xd_d9c01fe8 : decode (ia_code 88) 79 = .ok (.iconst (-1), 1) := fdd_d (by decide +kernel)
set_option maxRecDepth 100000 in
theorem xd_20c2010f : decode (ia_code 88) 80 = .ok (.ireturn, 1) := fdd_d (by decide +kernel)
set_option maxRecDepth 100000 in
theorem xr_6e309826 : ia_ret 88 = some .int := by decide +kernel
set_option maxRecDepth 100000 in
theorem xd_2c1f3e57 : decode (ia_code 88) 26 = .ok (.aload_n 0, 1) := fdd_d (by decide +kernel)
set_option maxRecDepth 100000 in
theorem xd_3f19d526 : decode (ia_code 88) 27 = .ok (.getfield 9, 3) := fdd_d (by decide +kernel)
set_option maxRecDepth 100000 in
theorem xf_03fa27d8 : wk_gf 88 9 32 0 (2 + 3) = true := by decide +kernel
set_option maxRecDepth 100000 in
theorem xd_b6bf99e9 : decode (ia_code 88) 30 = .ok (.getfield 31, 3) := fdd_d (by decide +kernel)
set_option maxRecDepth 100000 in
theorem xf_15d9b336 : wk_gf 88 31 2 5 0 = true := by decide +kernel
set_option maxRecDepth 100000 in
theorem xd_f158715d : decode (ia_code 88) 33 = .ok (.ifCond .ne 19, 3) := fdd_d (by decide +kernel)
set_option maxRecDepth 100000 in
theorem xd_1d5ba8b3 : decode (ia_code 88) 52 = .ok (.aload_n 0, 1) := fdd_d (by decide +kernel)
set_option maxRecDepth 100000 in
theorem xl_06227104 : ia_pl (ia_cls 88) 41 = some (1, 235, 0, 0, 742) := by decide +kernel
set_option maxRecDepth 100000 in
theorem xn_3feb5728 : ia_na 235 = 1 := by decide +kernel
set_option maxRecDepth 100000 in
theorem xc_39a64e49 : ia_mc 235 = 0 ∧ ia_ms 235 = 0 := ⟨by decide +kernel, by decide +kernel⟩
set_option maxRecDepth 100000 in
theorem xv_986fc5ca : cm_rcv 235 [.inr (.inr (some 32))] = true := by decide +kernel
set_option maxRecDepth 100000 in
theorem xd_66647642 : decode (ia_code 88) 53 = .ok (.invokevirtual 41, 3) := fdd_d (by decide +kernel)
set_option maxRecDepth 100000 in
theorem xd_447d431a : decode (ia_code 88) 56 = .ok (.ifCond .eq 15, 3) := fdd_d (by decide +kernel)
set_option maxRecDepth 100000 in
theorem xd_f5cb8c5f : decode (ia_code 88) 71 = .ok (.iconst (-1), 1) := fdd_d (by decide +kernel)
set_option maxRecDepth 100000 in
theorem xd_189c1832 : decode (ia_code 88) 72 = .ok (.ireturn, 1) := fdd_d (by decide +kernel)
set_option maxRecDepth 100000 in
theorem xd_6b07d2a8 : decode (ia_code 88) 59 = .ok (.aload_n 0, 1) := fdd_d (by decide +kernel)
set_option maxRecDepth 100000 in
theorem xd_f5bca8aa : decode (ia_code 88) 60 = .ok (.getfield 9, 3) := fdd_d (by decide +kernel)
set_option maxRecDepth 100000 in
theorem xd_ceaf386c : decode (ia_code 88) 63 = .ok (.bipush 59, 2) := fdd_d (by decide +kernel)
set_option maxRecDepth 100000 in
theorem xs_190_4ced0f8d {a1 : Int32} {w : cm_W} (h1 : 59 ≤ a1.toInt ∧ a1.toInt ≤ 59) (hG : sv_w sg w) : ∃ x : Int32, ∃ w' : cm_W, cm_C 3 190 [.inr (.inr (some 2)), .inl a1] w (some (.inl x), w') ∧ sv_w sg w' ∧ (∀ k i, ¬ ((k = 2 ∧ 4 ≤ i ∧ i ≤ 12)) → w'.1 k i = w.1 k i ∧ w'.2 k i = w.2 k i) ∧ ((x.toInt = 0) ∨ (x.toInt = 1)) := by
  obtain ⟨r, w', hC, hG', hF, q, hq, hr, hp, hs⟩ := wk_use (d := 3) sm_190_4ced0f8d_ok (by decide) (as := [.inr (.inr (some 2)), .inl a1]) (w := w) ⟨rfl, hb_mk (lo := 2147483707) (hi := 2147483707) (by have := h1.1; omega) (by have := h1.2; omega), trivial⟩ (fun f hf => by
    cases hf) hG
  have hfr : ∀ k i, ¬ ((k = 2 ∧ 4 ≤ i ∧ i ≤ 12)) → w'.1 k i = w.1 k i ∧ w'.2 k i = w.2 k i := fun k i hki => hF k i (fun ⟨r, z, z1, z2, z3⟩ => by
    simp only [sm_190_4ced0f8d, List.mem_cons, List.not_mem_nil, or_false] at z
    rcases z with rfl
    all_goals (simp only at z1 z2 z3; omega))
  simp only [sm_190_4ced0f8d, List.mem_cons, List.not_mem_nil, or_false] at hq
  rcases hq with rfl | rfl
  · obtain ⟨x, rfl, hx⟩ := wk_int hr
    have hx := hb_in hx
    exact ⟨x, w', hC, hG', hfr, Or.inl (by omega)⟩
  · obtain ⟨x, rfl, hx⟩ := wk_int hr
    have hx := hb_in hx
    exact ⟨x, w', hC, hG', hfr, Or.inr ((by omega))⟩
set_option maxRecDepth 100000 in
theorem xl_fcfa5d64 : ia_pl (ia_cls 88) 44 = some (1, 190, 0, 0, 817) := by decide +kernel
set_option maxRecDepth 100000 in
theorem xn_fe71b019 : ia_na 190 = 2 := by decide +kernel
set_option maxRecDepth 100000 in
theorem xc_c4c1f567 : ia_mc 190 = 0 ∧ ia_ms 190 = 0 := ⟨by decide +kernel, by decide +kernel⟩
set_option maxRecDepth 100000 in
theorem xv_89786e0c : cm_rcv 190 [.inr (.inr (some 2))] = true := by decide +kernel
set_option maxRecDepth 100000 in
theorem xd_34ee8a71 : decode (ia_code 88) 65 = .ok (.invokevirtual 44, 3) := fdd_d (by decide +kernel)
set_option maxRecDepth 100000 in
theorem xd_2c9a9f7f : decode (ia_code 88) 68 = .ok (.ifCond .ne 5, 3) := fdd_d (by decide +kernel)
set_option maxRecDepth 100000 in
theorem xd_d0d96f34 : decode (ia_code 88) 73 = .ok (.iinc 1 1, 3) := fdd_d (by decide +kernel)
set_option maxRecDepth 100000 in
theorem xm_99812ed2 : ia_maxL 88 = 2 := by decide +kernel
set_option maxRecDepth 100000 in
theorem xd_f2cc7fbc : decode (ia_code 88) 76 = .ok (.goto (-57), 3) := fdd_d (by decide +kernel)
set_option maxRecDepth 100000 in
theorem xd_ad3a5b70 : decode (ia_code 88) 36 = .ok (.aload_n 0, 1) := fdd_d (by decide +kernel)
set_option maxRecDepth 100000 in
theorem xd_9a924528 : decode (ia_code 88) 37 = .ok (.getfield 9, 3) := fdd_d (by decide +kernel)
set_option maxRecDepth 100000 in
theorem xs_59_4187aa83 {w : cm_W} (hG : sv_w sg w) : ∃ x : Int32, ∃ w' : cm_W, cm_C 2 59 [.inr (.inr (some 2))] w (some (.inl x), w') ∧ sv_w sg w' ∧ (∀ k i, ¬ ((k = 2 ∧ 11 ≤ i ∧ i ≤ 12)) → w'.1 k i = w.1 k i ∧ w'.2 k i = w.2 k i) ∧ ((x.toInt = 0) ∨ (x.toInt = 1)) := by
  obtain ⟨r, w', hC, hG', hF, q, hq, hr, hp, hs⟩ := wk_use (d := 2) sm_59_4187aa83_ok (by decide) (as := [.inr (.inr (some 2))]) (w := w) ⟨rfl, trivial⟩ (fun f hf => by
    cases hf) hG
  have hfr : ∀ k i, ¬ ((k = 2 ∧ 11 ≤ i ∧ i ≤ 12)) → w'.1 k i = w.1 k i ∧ w'.2 k i = w.2 k i := fun k i hki => hF k i (fun ⟨r, z, z1, z2, z3⟩ => by
    simp only [sm_59_4187aa83, List.mem_cons, List.not_mem_nil, or_false] at z
    rcases z with rfl
    all_goals (simp only at z1 z2 z3; omega))
  simp only [sm_59_4187aa83, List.mem_cons, List.not_mem_nil, or_false] at hq
  rcases hq with rfl | rfl
  · obtain ⟨x, rfl, hx⟩ := wk_int hr
    have hx := hb_in hx
    exact ⟨x, w', hC, hG', hfr, Or.inl (by omega)⟩
  · obtain ⟨x, rfl, hx⟩ := wk_int hr
    have hx := hb_in hx
    exact ⟨x, w', hC, hG', hfr, Or.inr ((by omega))⟩
set_option maxRecDepth 100000 in
theorem xl_4baad469 : ia_pl (ia_cls 88) 37 = some (1, 59, 0, 0, 734) := by decide +kernel
set_option maxRecDepth 100000 in
theorem xn_e06b76c8 : ia_na 59 = 1 := by decide +kernel
set_option maxRecDepth 100000 in
theorem xc_647a832b : ia_mc 59 = 0 ∧ ia_ms 59 = 0 := ⟨by decide +kernel, by decide +kernel⟩
set_option maxRecDepth 100000 in
theorem xv_dbeffa2c : cm_rcv 59 [.inr (.inr (some 2))] = true := by decide +kernel
set_option maxRecDepth 100000 in
theorem xd_be677e93 : decode (ia_code 88) 40 = .ok (.invokevirtual 37, 3) := fdd_d (by decide +kernel)
set_option maxRecDepth 100000 in
theorem xd_e2c79e52 : decode (ia_code 88) 43 = .ok (.ifCond .eq 7, 3) := fdd_d (by decide +kernel)
set_option maxRecDepth 100000 in
theorem xd_450a573e : decode (ia_code 88) 50 = .ok (.iconst (-1), 1) := fdd_d (by decide +kernel)
set_option maxRecDepth 100000 in
theorem xd_4dd25351 : decode (ia_code 88) 51 = .ok (.ireturn, 1) := fdd_d (by decide +kernel)
set_option maxRecDepth 100000 in
theorem xd_fb4196da : decode (ia_code 88) 46 = .ok (.iload_n 1, 1) := fdd_d (by decide +kernel)
set_option maxRecDepth 100000 in
theorem xd_235b8f8b : decode (ia_code 88) 47 = .ok (.goto 4, 3) := fdd_d (by decide +kernel)
set_option maxRecDepth 100000 in
theorem xd_dd8ea9b9 : decode (ia_code 84) 0 = .ok (.aload_n 0, 1) := fdd_d (by decide +kernel)
set_option maxRecDepth 100000 in
theorem xd_c0e5b029 : decode (ia_code 84) 1 = .ok (.bipush 10, 2) := fdd_d (by decide +kernel)
set_option maxRecDepth 100000 in
theorem xd_161977b7 : decode (ia_code 84) 3 = .ok (.putfield 9, 3) := fdd_d (by decide +kernel)
set_option maxRecDepth 100000 in
theorem xf_5bffb3a5 : wk_pf 84 9 18 0 0 = true := by decide +kernel
set_option maxRecDepth 100000 in
theorem xd_3044dbc3 : decode (ia_code 84) 6 = .ok (.aload_n 0, 1) := fdd_d (by decide +kernel)
set_option maxRecDepth 100000 in
theorem xd_1e3d7006 : decode (ia_code 84) 7 = .ok (.iconst 0, 1) := fdd_d (by decide +kernel)
set_option maxRecDepth 100000 in
theorem xd_654c7a4f : decode (ia_code 84) 8 = .ok (.putfield 56, 3) := fdd_d (by decide +kernel)
set_option maxRecDepth 100000 in
theorem xf_566e8504 : wk_pf 84 56 18 1 0 = true := by decide +kernel
set_option maxRecDepth 100000 in
theorem xd_a17bb21e : decode (ia_code 84) 11 = .ok (.aload_n 0, 1) := fdd_d (by decide +kernel)
set_option maxRecDepth 100000 in
theorem xd_6b68f3c8 : decode (ia_code 84) 12 = .ok (.iconst 0, 1) := fdd_d (by decide +kernel)
set_option maxRecDepth 100000 in
theorem xd_3052c743 : decode (ia_code 84) 13 = .ok (.putfield 59, 3) := fdd_d (by decide +kernel)
set_option maxRecDepth 100000 in
theorem xf_e9d1fd9a : wk_pf 84 59 18 2 0 = true := by decide +kernel
set_option maxRecDepth 100000 in
theorem xd_d7c22ab0 : decode (ia_code 84) 16 = .ok (.aload_n 0, 1) := fdd_d (by decide +kernel)
set_option maxRecDepth 100000 in
theorem xd_20e10408 : decode (ia_code 84) 17 = .ok (.iconst 0, 1) := fdd_d (by decide +kernel)
set_option maxRecDepth 100000 in
theorem xd_d8f0a118 : decode (ia_code 84) 18 = .ok (.putfield 62, 3) := fdd_d (by decide +kernel)
set_option maxRecDepth 100000 in
theorem xf_f12f84a8 : wk_pf 84 62 18 3 0 = true := by decide +kernel
set_option maxRecDepth 100000 in
theorem xd_f9651b36 : decode (ia_code 84) 21 = .ok (.aload_n 0, 1) := fdd_d (by decide +kernel)
set_option maxRecDepth 100000 in
theorem xd_1d8dcaf5 : decode (ia_code 84) 22 = .ok (.iconst 0, 1) := fdd_d (by decide +kernel)
set_option maxRecDepth 100000 in
theorem xd_8161b514 : decode (ia_code 84) 23 = .ok (.putfield 65, 3) := fdd_d (by decide +kernel)
set_option maxRecDepth 100000 in
theorem xf_88f290cb : wk_pf 84 65 18 4 0 = true := by decide +kernel
set_option maxRecDepth 100000 in
theorem xd_8fdc8398 : decode (ia_code 84) 26 = .ok (.aload_n 0, 1) := fdd_d (by decide +kernel)
set_option maxRecDepth 100000 in
theorem xd_56043d35 : decode (ia_code 84) 27 = .ok (.iconst 0, 1) := fdd_d (by decide +kernel)
set_option maxRecDepth 100000 in
theorem xd_60175441 : decode (ia_code 84) 28 = .ok (.putfield 68, 3) := fdd_d (by decide +kernel)
set_option maxRecDepth 100000 in
theorem xf_9b3e89f9 : wk_pf 84 68 18 5 0 = true := by decide +kernel
set_option maxRecDepth 100000 in
theorem xd_78407e11 : decode (ia_code 84) 31 = .ok (.aload_n 0, 1) := fdd_d (by decide +kernel)
set_option maxRecDepth 100000 in
theorem xd_86fe2021 : decode (ia_code 84) 32 = .ok (.iconst 0, 1) := fdd_d (by decide +kernel)
set_option maxRecDepth 100000 in
theorem xd_58a066e6 : decode (ia_code 84) 33 = .ok (.putfield 71, 3) := fdd_d (by decide +kernel)
set_option maxRecDepth 100000 in
theorem xf_a813b404 : wk_pf 84 71 18 6 0 = true := by decide +kernel
set_option maxRecDepth 100000 in
theorem xd_9334b42f : decode (ia_code 84) 36 = .ok (.return_, 1) := fdd_d (by decide +kernel)
set_option maxRecDepth 100000 in
theorem xr_95063b6f : ia_ret 84 = none := by decide +kernel
set_option maxRecDepth 100000 in
theorem xm_c5789269 : ia_maxL 84 = 1 := by decide +kernel
set_option maxRecDepth 100000 in
theorem xd_a23312db : decode (ia_code 88) 0 = .ok (.aload_n 0, 1) := fdd_d (by decide +kernel)
set_option maxRecDepth 100000 in
theorem xd_8254f195 : decode (ia_code 88) 1 = .ok (.getfield 15, 3) := fdd_d (by decide +kernel)
set_option maxRecDepth 100000 in
theorem xf_4099a588 : wk_gf 88 15 32 1 (18 + 3) = true := by decide +kernel
set_option maxRecDepth 100000 in
theorem xl_a2a0703f : ia_pl (ia_cls 88) 19 = some (1, 84, 0, 0, 730) := by decide +kernel
set_option maxRecDepth 100000 in
theorem xn_a465a1a7 : ia_na 84 = 1 := by decide +kernel
set_option maxRecDepth 100000 in
theorem xc_49288de5 : ia_mc 84 = 0 ∧ ia_ms 84 = 0 := ⟨by decide +kernel, by decide +kernel⟩
set_option maxRecDepth 100000 in
theorem xv_a388815a : cm_rcv 84 [.inr (.inr (some 18))] = true := by decide +kernel
set_option maxRecDepth 100000 in
theorem xd_246193c9 : decode (ia_code 88) 4 = .ok (.invokevirtual 19, 3) := fdd_d (by decide +kernel)
set_option maxRecDepth 100000 in
theorem xd_d48a8a75 : decode (ia_code 88) 7 = .ok (.aload_n 0, 1) := fdd_d (by decide +kernel)
set_option maxRecDepth 100000 in
theorem xd_1511b10a : decode (ia_code 88) 8 = .ok (.iconst 0, 1) := fdd_d (by decide +kernel)
set_option maxRecDepth 100000 in
theorem xd_ac7a9505 : decode (ia_code 88) 9 = .ok (.putfield 24, 3) := fdd_d (by decide +kernel)
set_option maxRecDepth 100000 in
theorem xf_b21e535d : wk_pf 88 24 32 2 1 = true := by decide +kernel
set_option maxRecDepth 100000 in
theorem xg_4d417361 : sv_g sg 32 2 = (2147483648, 2147483649) := by decide +kernel
set_option maxRecDepth 100000 in
theorem xd_745d36ec : decode (ia_code 88) 12 = .ok (.aload_n 0, 1) := fdd_d (by decide +kernel)
set_option maxRecDepth 100000 in
theorem xd_03fd2c6a : decode (ia_code 88) 13 = .ok (.iconst 0, 1) := fdd_d (by decide +kernel)
set_option maxRecDepth 100000 in
theorem xd_27d58590 : decode (ia_code 88) 14 = .ok (.putfield 28, 3) := fdd_d (by decide +kernel)
set_option maxRecDepth 100000 in
theorem xf_18299187 : wk_pf 88 28 32 3 1 = true := by decide +kernel
set_option maxRecDepth 100000 in
theorem xg_4cf48e7c : sv_g sg 32 3 = (2147483648, 2147483649) := by decide +kernel
set_option maxRecDepth 100000 in
theorem xd_5f5cbf6a : decode (ia_code 88) 17 = .ok (.iconst 0, 1) := fdd_d (by decide +kernel)
set_option maxRecDepth 100000 in
theorem xd_3fef2232 : decode (ia_code 88) 18 = .ok (.istore_n 1, 1) := fdd_d (by decide +kernel)
set_option maxRecDepth 100000 in
theorem xg_1bc18e31 : sv_g sg 0 1 = (2147483648, 2147484588) := by decide +kernel
set_option maxRecDepth 100000 in
theorem xd_745b29d6 : decode (ia_code 33) 0 = .ok (.aload_n 0, 1) := fdd_d (by decide +kernel)
set_option maxRecDepth 100000 in
theorem xd_7e617425 : decode (ia_code 33) 1 = .ok (.getfield 18, 3) := fdd_d (by decide +kernel)
set_option maxRecDepth 100000 in
theorem xf_953a4ff7 : wk_gf 33 18 0 2 (2 + 3) = true := by decide +kernel
set_option maxRecDepth 100000 in
theorem xd_74078845 : decode (ia_code 33) 4 = .ok (.aload_n 0, 1) := fdd_d (by decide +kernel)
set_option maxRecDepth 100000 in
theorem xd_94667bd8 : decode (ia_code 33) 5 = .ok (.getfield 105, 3) := fdd_d (by decide +kernel)
set_option maxRecDepth 100000 in
theorem xf_aadea398 : wk_gf 33 105 0 1 0 = true := by decide +kernel
set_option maxRecDepth 100000 in
theorem xd_1381902d : decode (ia_code 33) 8 = .ok (.iload_n 1, 1) := fdd_d (by decide +kernel)
set_option maxRecDepth 100000 in
theorem xs_62_23377289 {a1 : Int32} {a2 : Int32} {w : cm_W} (h1 : 0 ≤ a1.toInt ∧ a1.toInt ≤ 940) (h2 : 900 ≤ a2.toInt ∧ a2.toInt ≤ 900) (hG : sv_w sg w) : ∃ w' : cm_W, cm_C 3 62 [.inr (.inr (some 2)), .inl a1, .inl a2] w (none, w') ∧ sv_w sg w' ∧ (∀ k i, ¬ ((k = 2 ∧ 2 ≤ i ∧ i ≤ 12)) → w'.1 k i = w.1 k i ∧ w'.2 k i = w.2 k i) ∧ ((True)) := by
  obtain ⟨r, w', hC, hG', hF, q, hq, hr, hp, hs⟩ := wk_use (d := 3) sm_62_23377289_ok (by decide) (as := [.inr (.inr (some 2)), .inl a1, .inl a2]) (w := w) ⟨rfl, hb_mk (lo := 2147483648) (hi := 2147484588) (by have := h1.1; omega) (by have := h1.2; omega), hb_mk (lo := 2147484548) (hi := 2147484548) (by have := h2.1; omega) (by have := h2.2; omega), trivial⟩ (fun f hf => by
    cases hf) hG
  have hfr : ∀ k i, ¬ ((k = 2 ∧ 2 ≤ i ∧ i ≤ 12)) → w'.1 k i = w.1 k i ∧ w'.2 k i = w.2 k i := fun k i hki => hF k i (fun ⟨r, z, z1, z2, z3⟩ => by
    simp only [sm_62_23377289, List.mem_cons, List.not_mem_nil, or_false] at z
    rcases z with rfl
    all_goals (simp only at z1 z2 z3; omega))
  simp only [sm_62_23377289, List.mem_cons, List.not_mem_nil, or_false] at hq
  rcases hq with rfl
  · obtain rfl : r = none := by
      match r, hr with
      | none, _ => rfl
    exact ⟨w', hC, hG', hfr, (trivial)⟩
set_option maxRecDepth 100000 in
theorem xl_8a7af753 : ia_pl (ia_cls 33) 113 = some (1, 62, 0, 0, 711) := by decide +kernel
set_option maxRecDepth 100000 in
theorem xn_ff21545b : ia_na 62 = 3 := by decide +kernel
set_option maxRecDepth 100000 in
theorem xc_63e072e9 : ia_mc 62 = 0 ∧ ia_ms 62 = 0 := ⟨by decide +kernel, by decide +kernel⟩
set_option maxRecDepth 100000 in
theorem xv_76e78d68 : cm_rcv 62 [.inr (.inr (some 2))] = true := by decide +kernel
set_option maxRecDepth 100000 in
theorem xd_096058b8 : decode (ia_code 33) 9 = .ok (.invokevirtual 113, 3) := fdd_d (by decide +kernel)
set_option maxRecDepth 100000 in
theorem xd_0a3a226a : decode (ia_code 33) 12 = .ok (.aload_n 0, 1) := fdd_d (by decide +kernel)
set_option maxRecDepth 100000 in
theorem xd_d5951767 : decode (ia_code 33) 13 = .ok (.iconst 0, 1) := fdd_d (by decide +kernel)
set_option maxRecDepth 100000 in
theorem xd_2c88408b : decode (ia_code 33) 14 = .ok (.putfield 105, 3) := fdd_d (by decide +kernel)
set_option maxRecDepth 100000 in
theorem xf_66f0d799 : wk_pf 33 105 0 1 0 = true := by decide +kernel
set_option maxRecDepth 100000 in
theorem xd_4b90c2dd : decode (ia_code 33) 17 = .ok (.return_, 1) := fdd_d (by decide +kernel)
set_option maxRecDepth 100000 in
theorem xr_1d96acab : ia_ret 33 = none := by decide +kernel
set_option maxRecDepth 100000 in
theorem xm_8496ef00 : ia_maxL 33 = 2 := by decide +kernel
set_option maxRecDepth 100000 in
theorem xs_62_de3590a7 {a1 : Int32} {a2 : Int32} {w : cm_W} (h1 : 0 ≤ a1.toInt ∧ a1.toInt ≤ 940) (h2 : 400 ≤ a2.toInt ∧ a2.toInt ≤ 400) (hG : sv_w sg w) : ∃ w' : cm_W, cm_C 3 62 [.inr (.inr (some 2)), .inl a1, .inl a2] w (none, w') ∧ sv_w sg w' ∧ (∀ k i, ¬ ((k = 2 ∧ 2 ≤ i ∧ i ≤ 12)) → w'.1 k i = w.1 k i ∧ w'.2 k i = w.2 k i) ∧ ((True)) := by
  obtain ⟨r, w', hC, hG', hF, q, hq, hr, hp, hs⟩ := wk_use (d := 3) sm_62_de3590a7_ok (by decide) (as := [.inr (.inr (some 2)), .inl a1, .inl a2]) (w := w) ⟨rfl, hb_mk (lo := 2147483648) (hi := 2147484588) (by have := h1.1; omega) (by have := h1.2; omega), hb_mk (lo := 2147484048) (hi := 2147484048) (by have := h2.1; omega) (by have := h2.2; omega), trivial⟩ (fun f hf => by
    cases hf) hG
  have hfr : ∀ k i, ¬ ((k = 2 ∧ 2 ≤ i ∧ i ≤ 12)) → w'.1 k i = w.1 k i ∧ w'.2 k i = w.2 k i := fun k i hki => hF k i (fun ⟨r, z, z1, z2, z3⟩ => by
    simp only [sm_62_de3590a7, List.mem_cons, List.not_mem_nil, or_false] at z
    rcases z with rfl
    all_goals (simp only at z1 z2 z3; omega))
  simp only [sm_62_de3590a7, List.mem_cons, List.not_mem_nil, or_false] at hq
  rcases hq with rfl
  · obtain rfl : r = none := by
      match r, hr with
      | none, _ => rfl
    exact ⟨w', hC, hG', hfr, (trivial)⟩
set_option maxRecDepth 100000 in
theorem xs_62_ede5cc43 {a1 : Int32} {a2 : Int32} {w : cm_W} (h1 : 0 ≤ a1.toInt ∧ a1.toInt ≤ 940) (h2 : 200 ≤ a2.toInt ∧ a2.toInt ≤ 200) (hG : sv_w sg w) : ∃ w' : cm_W, cm_C 3 62 [.inr (.inr (some 2)), .inl a1, .inl a2] w (none, w') ∧ sv_w sg w' ∧ (∀ k i, ¬ ((k = 2 ∧ 2 ≤ i ∧ i ≤ 12)) → w'.1 k i = w.1 k i ∧ w'.2 k i = w.2 k i) ∧ ((True)) := by
  obtain ⟨r, w', hC, hG', hF, q, hq, hr, hp, hs⟩ := wk_use (d := 3) sm_62_ede5cc43_ok (by decide) (as := [.inr (.inr (some 2)), .inl a1, .inl a2]) (w := w) ⟨rfl, hb_mk (lo := 2147483648) (hi := 2147484588) (by have := h1.1; omega) (by have := h1.2; omega), hb_mk (lo := 2147483848) (hi := 2147483848) (by have := h2.1; omega) (by have := h2.2; omega), trivial⟩ (fun f hf => by
    cases hf) hG
  have hfr : ∀ k i, ¬ ((k = 2 ∧ 2 ≤ i ∧ i ≤ 12)) → w'.1 k i = w.1 k i ∧ w'.2 k i = w.2 k i := fun k i hki => hF k i (fun ⟨r, z, z1, z2, z3⟩ => by
    simp only [sm_62_ede5cc43, List.mem_cons, List.not_mem_nil, or_false] at z
    rcases z with rfl
    all_goals (simp only at z1 z2 z3; omega))
  simp only [sm_62_ede5cc43, List.mem_cons, List.not_mem_nil, or_false] at hq
  rcases hq with rfl
  · obtain rfl : r = none := by
      match r, hr with
      | none, _ => rfl
    exact ⟨w', hC, hG', hfr, (trivial)⟩
set_option maxRecDepth 100000 in
theorem xd_8c1af98e : decode (ia_code 47) 0 = .ok (.aload_n 0, 1) := fdd_d (by decide +kernel)
set_option maxRecDepth 100000 in
theorem xd_e235e0e1 : decode (ia_code 47) 1 = .ok (.sipush 900, 3) := fdd_d (by decide +kernel)
set_option maxRecDepth 100000 in
theorem xl_14c10ebc : ia_pl (ia_cls 47) 117 = some (1, 33, 0, 0, 707) := by decide +kernel
set_option maxRecDepth 100000 in
theorem xn_e58bdcce : ia_na 33 = 2 := by decide +kernel
set_option maxRecDepth 100000 in
theorem xc_824ae56d : ia_mc 33 = 0 ∧ ia_ms 33 = 0 := ⟨by decide +kernel, by decide +kernel⟩
set_option maxRecDepth 100000 in
theorem xv_a03cc3f8 : cm_rcv 33 [.inr (.inr (some 0))] = true := by decide +kernel
set_option maxRecDepth 100000 in
theorem xd_2fe7da06 : decode (ia_code 47) 4 = .ok (.invokevirtual 117, 3) := fdd_d (by decide +kernel)
set_option maxRecDepth 100000 in
theorem xd_faa36120 : decode (ia_code 47) 7 = .ok (.aload_n 0, 1) := fdd_d (by decide +kernel)
set_option maxRecDepth 100000 in
theorem xd_ccc8bc8f : decode (ia_code 47) 8 = .ok (.getfield 37, 3) := fdd_d (by decide +kernel)
set_option maxRecDepth 100000 in
theorem xf_9566c2f6 : wk_gf 47 37 0 6 (32 + 3) = true := by decide +kernel
set_option maxRecDepth 100000 in
theorem xl_76a42e7c : ia_pl (ia_cls 47) 120 = some (1, 88, 0, 0, 726) := by decide +kernel
set_option maxRecDepth 100000 in
theorem xn_61954ca6 : ia_na 88 = 1 := by decide +kernel
set_option maxRecDepth 100000 in
theorem xc_693ad5e4 : ia_mc 88 = 0 ∧ ia_ms 88 = 0 := ⟨by decide +kernel, by decide +kernel⟩
set_option maxRecDepth 100000 in
theorem xv_3f82693f : cm_rcv 88 [.inr (.inr (some 32))] = true := by decide +kernel
set_option maxRecDepth 100000 in
theorem xd_709aa264 : decode (ia_code 47) 11 = .ok (.invokevirtual 120, 3) := fdd_d (by decide +kernel)
set_option maxRecDepth 100000 in
theorem xd_74f03c1b : decode (ia_code 47) 14 = .ok (.istore_n 1, 1) := fdd_d (by decide +kernel)
set_option maxRecDepth 100000 in
theorem xm_6c137978 : ia_maxL 47 = 2 := by decide +kernel
set_option maxRecDepth 100000 in
theorem xd_19cb22d2 : decode (ia_code 47) 15 = .ok (.aload_n 0, 1) := fdd_d (by decide +kernel)
set_option maxRecDepth 100000 in
theorem xd_6f2e1bef : decode (ia_code 47) 16 = .ok (.aload_n 0, 1) := fdd_d (by decide +kernel)
set_option maxRecDepth 100000 in
theorem xd_b832b36a : decode (ia_code 47) 17 = .ok (.getfield 18, 3) := fdd_d (by decide +kernel)
set_option maxRecDepth 100000 in
theorem xf_a47ed913 : wk_gf 47 18 0 2 (2 + 3) = true := by decide +kernel
set_option maxRecDepth 100000 in
theorem xd_43a83c9e : decode (ia_code 47) 20 = .ok (.getfield 124, 3) := fdd_d (by decide +kernel)
set_option maxRecDepth 100000 in
theorem xf_41ac18fa : wk_gf 47 124 2 11 0 = true := by decide +kernel
set_option maxRecDepth 100000 in
theorem xd_a9e3f212 : decode (ia_code 47) 23 = .ok (.putfield 127, 3) := fdd_d (by decide +kernel)
set_option maxRecDepth 100000 in
theorem xf_6a7b2ed5 : wk_pf 47 127 0 3 0 = true := by decide +kernel
set_option maxRecDepth 100000 in
theorem xg_2addefec : sv_g sg 0 3 = sv_top := by decide +kernel
set_option maxRecDepth 100000 in
theorem xd_5053481a : decode (ia_code 47) 26 = .ok (.iload_n 1, 1) := fdd_d (by decide +kernel)
set_option maxRecDepth 100000 in
theorem xd_c6d68e8e : decode (ia_code 47) 27 = .ok (.iconst (-1), 1) := fdd_d (by decide +kernel)
set_option maxRecDepth 100000 in
theorem xd_6e9dfa01 : decode (ia_code 47) 28 = .ok (.if_icmp .ne 13, 3) := fdd_d (by decide +kernel)
set_option maxRecDepth 100000 in
theorem xd_f1b47839 : decode (ia_code 47) 41 = .ok (.aload_n 0, 1) := fdd_d (by decide +kernel)
set_option maxRecDepth 100000 in
theorem xd_5589efc9 : decode (ia_code 47) 42 = .ok (.getfield 25, 3) := fdd_d (by decide +kernel)
set_option maxRecDepth 100000 in
theorem xf_9a45eb64 : wk_gf 47 25 0 4 (4 + 3) = true := by decide +kernel
set_option maxRecDepth 100000 in
theorem xd_f1e8d9aa : decode (ia_code 47) 45 = .ok (.aload_n 0, 1) := fdd_d (by decide +kernel)
set_option maxRecDepth 100000 in
theorem xd_6bc44833 : decode (ia_code 47) 46 = .ok (.getfield 29, 3) := fdd_d (by decide +kernel)
set_option maxRecDepth 100000 in
theorem xf_d92a5389 : wk_gf 47 29 0 5 (18 + 3) = true := by decide +kernel
set_option maxRecDepth 100000 in
theorem xl_62be7d0c : ia_pl (ia_cls 47) 131 = some (1, 85, 0, 0, 822) := by decide +kernel
set_option maxRecDepth 100000 in
theorem xd_71c90179 : decode (ia_code 47) 49 = .ok (.invokevirtual 131, 3) := fdd_d (by decide +kernel)
set_option maxRecDepth 100000 in
theorem xd_06742423 : decode (ia_code 47) 52 = .ok (.aload_n 0, 1) := fdd_d (by decide +kernel)
set_option maxRecDepth 100000 in
theorem xd_86e6409d : decode (ia_code 47) 53 = .ok (.getfield 46, 3) := fdd_d (by decide +kernel)
set_option maxRecDepth 100000 in
theorem xf_35556dee : wk_gf 47 46 0 7 (33 + 3) = true := by decide +kernel
set_option maxRecDepth 100000 in
theorem xl_18aa0aa3 : ia_pl (ia_cls 47) 134 = some (1, 71, 0, 0, 829) := by decide +kernel
set_option maxRecDepth 100000 in
theorem xn_9dd39c02 : ia_na 71 = 1 := by decide +kernel
set_option maxRecDepth 100000 in
theorem xc_4d179c08 : ia_mc 71 = 0 ∧ ia_ms 71 = 0 := ⟨by decide +kernel, by decide +kernel⟩
set_option maxRecDepth 100000 in
theorem xv_00faf401 : cm_rcv 71 [.inr (.inr (some 33))] = true := by decide +kernel
set_option maxRecDepth 100000 in
theorem xd_177b571c : decode (ia_code 47) 56 = .ok (.invokevirtual 134, 3) := fdd_d (by decide +kernel)
set_option maxRecDepth 100000 in
theorem xd_70285e38 : decode (ia_code 47) 59 = .ok (.aload_n 0, 1) := fdd_d (by decide +kernel)
set_option maxRecDepth 100000 in
theorem xd_8ec42dec : decode (ia_code 47) 60 = .ok (.getfield 69, 3) := fdd_d (by decide +kernel)
set_option maxRecDepth 100000 in
theorem xf_079f417e : wk_gf 47 69 0 11 (106 + 3) = true := by decide +kernel
set_option maxRecDepth 100000 in
theorem xl_b06f42f3 : ia_pl (ia_cls 47) 137 = some (1, 66, 0, 0, 833) := by decide +kernel
set_option maxRecDepth 100000 in
theorem xn_e4af93b7 : ia_na 66 = 1 := by decide +kernel
set_option maxRecDepth 100000 in
theorem xc_cac14729 : ia_mc 66 = 0 ∧ ia_ms 66 = 0 := ⟨by decide +kernel, by decide +kernel⟩
set_option maxRecDepth 100000 in
theorem xv_92608cb1 : cm_rcv 66 [.inr (.inr (some 106))] = true := by decide +kernel
set_option maxRecDepth 100000 in
theorem xd_acbc6ee6 : decode (ia_code 47) 63 = .ok (.invokevirtual 137, 3) := fdd_d (by decide +kernel)
set_option maxRecDepth 100000 in
theorem xd_5e362c98 : decode (ia_code 47) 66 = .ok (.aload_n 0, 1) := fdd_d (by decide +kernel)
set_option maxRecDepth 100000 in
theorem xd_4450343b : decode (ia_code 47) 67 = .ok (.getfield 56, 3) := fdd_d (by decide +kernel)
set_option maxRecDepth 100000 in
theorem xf_c62d31ee : wk_gf 47 56 0 9 (47 + 3) = true := by decide +kernel
set_option maxRecDepth 100000 in
theorem xl_6391a4ea : ia_pl (ia_cls 47) 140 = some (1, 53, 0, 0, 837) := by decide +kernel
set_option maxRecDepth 100000 in
theorem xd_e16bbe97 : decode (ia_code 47) 70 = .ok (.invokevirtual 140, 3) := fdd_d (by decide +kernel)
set_option maxRecDepth 100000 in
theorem xd_235ff825 : decode (ia_code 47) 73 = .ok (.iload_n 1, 1) := fdd_d (by decide +kernel)
set_option maxRecDepth 100000 in
theorem xd_7347c989 : decode (ia_code 47) 74 = .ok (.ireturn, 1) := fdd_d (by decide +kernel)
set_option maxRecDepth 100000 in
theorem xr_63b5dc3e : ia_ret 47 = some .int := by decide +kernel
set_option maxRecDepth 100000 in
theorem xd_4a1044bf : decode (ia_code 47) 31 = .ok (.iconst (-1), 1) := fdd_d (by decide +kernel)
set_option maxRecDepth 100000 in
theorem xd_b6497673 : decode (ia_code 47) 32 = .ok (.aload_n 0, 1) := fdd_d (by decide +kernel)
set_option maxRecDepth 100000 in
theorem xd_56c5b2fe : decode (ia_code 47) 33 = .ok (.getfield 18, 3) := fdd_d (by decide +kernel)
set_option maxRecDepth 100000 in
theorem xd_d70a176f : decode (ia_code 47) 36 = .ok (.getfield 128, 3) := fdd_d (by decide +kernel)
set_option maxRecDepth 100000 in
theorem xf_ef6e0a1d : wk_gf 47 128 2 12 0 = true := by decide +kernel
set_option maxRecDepth 100000 in
theorem xd_5b3e8d0d : decode (ia_code 47) 39 = .ok (.isub, 1) := fdd_d (by decide +kernel)
set_option maxRecDepth 100000 in
theorem xd_58c66072 : decode (ia_code 47) 40 = .ok (.ireturn, 1) := fdd_d (by decide +kernel)
theorem jrf_ok {w : cm_W} {a : Int32} (ha : a.toInt ≠ 0) (hG : sv_w sg w) : ∃ x w', cm_C 1 63 [.inr (.inr (some 2)), .inl a] w (some (.inl x), w') ∧ sv_w sg w' ∧ (∀ k i, ¬ (k = 2 ∧ 11 ≤ i) → w'.1 k i = w.1 k i) ∧ x.toInt = 0 ∧ (w'.1 2 11).toInt ≠ 0 := by
  have h : ∃ o, cm_C (0 + 1) 63 [.inr (.inr (some 2)), .inl a] w o ∧ (fun o : cm_O => ∃ x w', o = (some (.inl x), w') ∧ sv_w sg w' ∧ (∀ k i, ¬ (k = 2 ∧ 11 ≤ i) → w'.1 k i = w.1 k i) ∧ x.toInt = 0 ∧ (w'.1 2 11).toInt ≠ 0) o := by
    refine wk_entry (by rw [xm_d45b7eb3]; exact Nat.le_of_ble_eq_true rfl) ?_
    rw [show cm_ent 63 [.inr (.inr (some 2)), .inl a] = [some (.inr (.inr (some 2))), some (.inl a)] from by unfold cm_ent; rw [xm_d45b7eb3]; rfl]
    refine wk_aload_n xd_7b9659d2 rfl ?_
    refine wk_getI xf_cd55533c xd_27a577d3 ?_
    refine wk_if xd_94607c29 (t := 20) rfl (fun h4_0 => ?_) (fun h4_0 => ?_)
    · have h4_0 := aw_ne_t (a := ((w.1 2 11).toInt : Int)) (b := (0 : Int)) rfl hb_z h4_0
      refine wk_iconst xd_95c5f31e ?_
      exact wk_ireturn xd_5b1ab8f8 xr_b99dcc8c wk_z0 ⟨_, _, rfl, hG, fun k i hk => rfl, by decide, by omega⟩
    · have h4_0 := aw_ne_f (a := ((w.1 2 11).toInt : Int)) (b := (0 : Int)) rfl hb_z h4_0
      refine wk_aload_n xd_0d2fc17c rfl ?_
      refine wk_iload_n xd_1c4ce029 rfl ?_
      refine wk_putI xf_017b273d (fun ci => wk_fitI ci) xd_b27f485d ?_
      have hG2_ : sv_w sg (cm_u1 w 2 11 a) := sv_w_u1 hG (by rw [xg_45c7cf51]; exact sv_in_top _)
      refine wk_aload_n xd_0d582b03 rfl ?_
      refine wk_aload_n xd_962bc1d7 rfl ?_
      refine wk_getI xf_dee52514 xd_39e1e3ee ?_
      refine wk_putI xf_9ad0ab51 (fun ci => wk_fitI ci) xd_ff6de125 ?_
      have hG3_ : sv_w sg (cm_u1 (cm_u1 w 2 11 a) 2 12 ((cm_u1 w 2 11 a).1 2 6)) := sv_w_u1 hG2_ (by rw [xg_aef07452]; exact sv_in_top _)
      refine wk_iconst xd_95c5f31e ?_
      exact wk_ireturn xd_5b1ab8f8 xr_b99dcc8c wk_z0 ⟨_, _, rfl, hG3_, fun k i hk => by rw [hs_u1_ne (by omega), hs_u1_ne (by omega)], by decide, by rw [hs_u1_ne (by omega), hs_u1_self]; exact ha⟩
  obtain ⟨o, hC, x, w', rfl, a⟩ := h
  exact ⟨x, w', hC, a⟩
theorem jig_ok (w : cm_W) : ∃ x : Int32, cm_C 1 184 [.inr (.inr (some 2))] w (some (.inl x), w) ∧ ((x.toInt = 1 ∧ (w.1 2 11).toInt = 0) ∨ (x.toInt = 0 ∧ (w.1 2 11).toInt ≠ 0)) := by
  have h : ∃ o, cm_C (0 + 1) 184 [.inr (.inr (some 2))] w o ∧ (fun o : cm_O => ∃ x : Int32, o = (some (.inl x), w) ∧ ((x.toInt = 1 ∧ (w.1 2 11).toInt = 0) ∨ (x.toInt = 0 ∧ (w.1 2 11).toInt ≠ 0))) o := by
    refine wk_entry (by rw [xm_25196642]; exact Nat.le_of_ble_eq_true rfl) ?_
    rw [show cm_ent 184 [.inr (.inr (some 2))] = [some (.inr (.inr (some 2)))] from by unfold cm_ent; rw [xm_25196642]; rfl]
    refine wk_aload_n xd_d0edafde rfl ?_
    refine wk_getI xf_33da9ce3 xd_dfcec48d ?_
    refine wk_if xd_a275c911 (t := 11) rfl (fun h4_0 => ?_) (fun h4_0 => ?_)
    · have h4_0 := aw_ne_t (a := ((w.1 2 11).toInt : Int)) (b := (0 : Int)) rfl hb_z h4_0
      refine wk_iconst xd_5f7358ef ?_
      have e : ((Int32.ofInt 0)).toInt = 0 := by decide
      exact wk_ireturn xd_b3b7c274 xr_2eac88e6 wk_z0 ⟨_, rfl, by omega⟩
    · have h4_0 := aw_ne_f (a := ((w.1 2 11).toInt : Int)) (b := (0 : Int)) rfl hb_z h4_0
      refine wk_iconst xd_2d31003c ?_
      refine wk_goto xd_bbd626a9 (t := 12) rfl ?_
      have e : ((Int32.ofInt 1)).toInt = 1 := by decide
      exact wk_ireturn xd_b3b7c274 xr_2eac88e6 wk_z1 ⟨_, rfl, by omega⟩
  obtain ⟨o, hC, x, rfl, a⟩ := h
  exact ⟨x, hC, a⟩
def jO2 (w0 w : cm_W) : Prop := ∀ k i, k ≠ 2 → w.1 k i = w0.1 k i
theorem jtu_ok {w : cm_W} {a b : Int32} (hG : sv_w sg w) : ∃ x w', cm_C 3 189 [.inr (.inr (some 2)), .inl a, .inl b] w (some (.inl x), w') ∧ sv_w sg w' ∧ jO2 w w' ∧ ((a.toInt ≤ x.toInt ∧ x.toInt ≤ b.toInt) ∨ (w'.1 2 11).toInt ≠ 0) := by
  have h : ∃ o, cm_C (2 + 1) 189 [.inr (.inr (some 2)), .inl a, .inl b] w o ∧ (fun o : cm_O => ∃ x w', o = (some (.inl x), w') ∧ sv_w sg w' ∧ jO2 w w' ∧ ((a.toInt ≤ x.toInt ∧ x.toInt ≤ b.toInt) ∨ (w'.1 2 11).toInt ≠ 0)) o := by
    refine wk_entry (by rw [xm_ade3567c]; exact Nat.le_of_ble_eq_true rfl) ?_
    rw [show cm_ent 189 [.inr (.inr (some 2)), .inl a, .inl b] = [some (.inr (.inr (some 2))), some (.inl a), some (.inl b), none] from by unfold cm_ent; rw [xm_ade3567c]; rfl]
    refine wk_aload_n xd_484db22b rfl ?_
    refine wk_getI xf_47306fc9 xd_605b40b6 ?_
    refine wk_iconst xd_1cb4b75e ?_
    refine wk_icmp xd_3f822996 (t := 17) rfl (fun h5_0 => ?_) (fun h5_0 => ?_)
    · have h5_0 := aw_eq_t (a := ((w.1 2 5).toInt : Int)) (b := (3 : Int)) rfl (show ((Int32.ofInt 3)).toInt = 3 from by decide) h5_0
      refine wk_aload_n xd_5225f117 rfl ?_
      refine wk_getI xf_98967174 xd_3751656f ?_
      refine wk_iload_n xd_8092d098 rfl ?_
      refine wk_icmp xd_22f04202 (t := 33) rfl (fun h22_1 => ?_) (fun h22_1 => ?_)
      · have h22_1 := aw_lt_t (a := ((w.1 2 9).toInt : Int)) (b := ((a).toInt : Int)) rfl rfl h22_1
        refine wk_aload_n xd_8b429c8b rfl ?_
        refine wk_iconst xd_1b0c3253 ?_
        obtain ⟨xr, wr, hCr, hGr, hFr, hr0, hr1⟩ := jrf_ok (w := w) (show (Int32.ofInt 2).toInt ≠ 0 from by decide) hG
        refine wk_call (kd := 0) (i := 80) xd_6858d3b4 rfl (wk_cal (as := [.inr (.inr (some 2)), .inl (Int32.ofInt 2)]) (t := []) xl_726d40f2 rfl xn_b5464d7d xc_49a83f99 rfl rfl xv_780065b9 rfl) (cm_C_mono (by decide) hCr) ?_
        have hf3_ : jO2 w wr := fun k i x1 => (hFr k i (by omega)).trans ((fun _ _ _ => rfl) k i x1)
        refine wk_pop xd_3cfdab2b ?_
        refine wk_aload_n xd_666d0c44 rfl ?_
        obtain ⟨xg4_, hCg4_, hxg4_⟩ := jig_ok wr
        refine wk_call (kd := 0) (i := 87) xd_3f2cfabb rfl (wk_cal (as := [.inr (.inr (some 2))]) (t := []) xl_be386658 rfl xn_59a494c6 xc_7b6444b6 rfl rfl xv_433dc8e2 rfl) (cm_C_mono (by decide) hCg4_) ?_
        refine wk_if xd_f8817d60 (t := 48) rfl (fun h43_4 => ?_) (fun h43_4 => ?_)
        · have h43_4 := aw_ne_t (a := ((xg4_).toInt : Int)) (b := (0 : Int)) rfl hb_z h43_4
          have hg0 : (wr.1 2 11).toInt = 0 := by omega
          refine wk_aload_n xd_cc06d1e7 rfl ?_
          refine wk_getI xf_98967174 xd_5f53c528 ?_
          refine wk_istore_n xd_77ce6333 (by rw [xm_ade3567c]; rfl) rfl ?_
          refine wk_aload_n xd_3b7fcedb rfl ?_
          obtain ⟨wc6_, hCc6_, hGc6_, hFc6_, hxc6_⟩ := xs_61_078b38e8 (w := wr) hGr
          refine wk_call (kd := 0) (i := 55) xd_0616def4 rfl (wk_cal (as := [.inr (.inr (some 2))]) (t := []) xl_14b5b052 rfl xn_568f4fa7 xc_1d38a579 rfl rfl xv_65cfb41b rfl) (cm_C_mono (by decide) hCc6_) ?_
          have hf7_ : jO2 w wc6_ := fun k i x1 => ((hFc6_ k i (by omega)).1).trans (hf3_ k i x1)
          refine wk_iload_n xd_2680c6f5 rfl ?_
          exact wk_ireturn xd_5c1d103d xr_df255d1e rfl ⟨_, _, rfl, hGc6_, hf7_, .inl ⟨by omega, by omega⟩⟩
        · have h43_4 := aw_ne_f (a := ((xg4_).toInt : Int)) (b := (0 : Int)) rfl hb_z h43_4
          refine wk_iconst xd_65b20ee7 ?_
          exact wk_ireturn xd_0720fbd3 xr_df255d1e rfl ⟨_, _, rfl, hGr, hf3_, .inr (by omega)⟩
      · have h22_1 := aw_lt_f (a := ((w.1 2 9).toInt : Int)) (b := ((a).toInt : Int)) rfl rfl h22_1
        refine wk_aload_n xd_e7ad8bd6 rfl ?_
        refine wk_getI xf_98967174 xd_82d67786 ?_
        refine wk_iload_n xd_c78be96e rfl ?_
        refine wk_icmp xd_e7ae1253 (t := 39) rfl (fun h30_7 => ?_) (fun h30_7 => ?_)
        · have h30_7 := aw_le_t (a := ((w.1 2 9).toInt : Int)) (b := ((b).toInt : Int)) rfl rfl h30_7
          refine wk_aload_n xd_666d0c44 rfl ?_
          obtain ⟨xg9_, hCg9_, hxg9_⟩ := jig_ok w
          refine wk_call (kd := 0) (i := 87) xd_3f2cfabb rfl (wk_cal (as := [.inr (.inr (some 2))]) (t := []) xl_be386658 rfl xn_59a494c6 xc_7b6444b6 rfl rfl xv_433dc8e2 rfl) (cm_C_mono (by decide) hCg9_) ?_
          refine wk_if xd_f8817d60 (t := 48) rfl (fun h43_9 => ?_) (fun h43_9 => ?_)
          · have h43_9 := aw_ne_t (a := ((xg9_).toInt : Int)) (b := (0 : Int)) rfl hb_z h43_9
            have hg0 : (w.1 2 11).toInt = 0 := by omega
            refine wk_aload_n xd_cc06d1e7 rfl ?_
            refine wk_getI xf_98967174 xd_5f53c528 ?_
            refine wk_istore_n xd_77ce6333 (by rw [xm_ade3567c]; rfl) rfl ?_
            refine wk_aload_n xd_3b7fcedb rfl ?_
            obtain ⟨wc11_, hCc11_, hGc11_, hFc11_, hxc11_⟩ := xs_61_078b38e8 (w := w) hG
            refine wk_call (kd := 0) (i := 55) xd_0616def4 rfl (wk_cal (as := [.inr (.inr (some 2))]) (t := []) xl_14b5b052 rfl xn_568f4fa7 xc_1d38a579 rfl rfl xv_65cfb41b rfl) (cm_C_mono (by decide) hCc11_) ?_
            have hf12_ : jO2 w wc11_ := fun k i x1 => ((hFc11_ k i (by omega)).1).trans ((fun _ _ _ => rfl) k i x1)
            refine wk_iload_n xd_2680c6f5 rfl ?_
            exact wk_ireturn xd_5c1d103d xr_df255d1e rfl ⟨_, _, rfl, hGc11_, hf12_, .inl ⟨by omega, by omega⟩⟩
          · have h43_9 := aw_ne_f (a := ((xg9_).toInt : Int)) (b := (0 : Int)) rfl hb_z h43_9
            refine wk_iconst xd_65b20ee7 ?_
            exact wk_ireturn xd_0720fbd3 xr_df255d1e rfl ⟨_, _, rfl, hG, (fun _ _ _ => rfl), .inr (by omega)⟩
        · have h30_7 := aw_le_f (a := ((w.1 2 9).toInt : Int)) (b := ((b).toInt : Int)) rfl rfl h30_7
          refine wk_aload_n xd_8b429c8b rfl ?_
          refine wk_iconst xd_1b0c3253 ?_
          obtain ⟨xr, wr, hCr, hGr, hFr, hr0, hr1⟩ := jrf_ok (w := w) (show (Int32.ofInt 2).toInt ≠ 0 from by decide) hG
          refine wk_call (kd := 0) (i := 80) xd_6858d3b4 rfl (wk_cal (as := [.inr (.inr (some 2)), .inl (Int32.ofInt 2)]) (t := []) xl_726d40f2 rfl xn_b5464d7d xc_49a83f99 rfl rfl xv_780065b9 rfl) (cm_C_mono (by decide) hCr) ?_
          have hf13_ : jO2 w wr := fun k i x1 => (hFr k i (by omega)).trans ((fun _ _ _ => rfl) k i x1)
          refine wk_pop xd_3cfdab2b ?_
          refine wk_aload_n xd_666d0c44 rfl ?_
          obtain ⟨xg14_, hCg14_, hxg14_⟩ := jig_ok wr
          refine wk_call (kd := 0) (i := 87) xd_3f2cfabb rfl (wk_cal (as := [.inr (.inr (some 2))]) (t := []) xl_be386658 rfl xn_59a494c6 xc_7b6444b6 rfl rfl xv_433dc8e2 rfl) (cm_C_mono (by decide) hCg14_) ?_
          refine wk_if xd_f8817d60 (t := 48) rfl (fun h43_14 => ?_) (fun h43_14 => ?_)
          · have h43_14 := aw_ne_t (a := ((xg14_).toInt : Int)) (b := (0 : Int)) rfl hb_z h43_14
            have hg0 : (wr.1 2 11).toInt = 0 := by omega
            refine wk_aload_n xd_cc06d1e7 rfl ?_
            refine wk_getI xf_98967174 xd_5f53c528 ?_
            refine wk_istore_n xd_77ce6333 (by rw [xm_ade3567c]; rfl) rfl ?_
            refine wk_aload_n xd_3b7fcedb rfl ?_
            obtain ⟨wc16_, hCc16_, hGc16_, hFc16_, hxc16_⟩ := xs_61_078b38e8 (w := wr) hGr
            refine wk_call (kd := 0) (i := 55) xd_0616def4 rfl (wk_cal (as := [.inr (.inr (some 2))]) (t := []) xl_14b5b052 rfl xn_568f4fa7 xc_1d38a579 rfl rfl xv_65cfb41b rfl) (cm_C_mono (by decide) hCc16_) ?_
            have hf17_ : jO2 w wc16_ := fun k i x1 => ((hFc16_ k i (by omega)).1).trans (hf13_ k i x1)
            refine wk_iload_n xd_2680c6f5 rfl ?_
            exact wk_ireturn xd_5c1d103d xr_df255d1e rfl ⟨_, _, rfl, hGc16_, hf17_, .inl ⟨by omega, by omega⟩⟩
          · have h43_14 := aw_ne_f (a := ((xg14_).toInt : Int)) (b := (0 : Int)) rfl hb_z h43_14
            refine wk_iconst xd_65b20ee7 ?_
            exact wk_ireturn xd_0720fbd3 xr_df255d1e rfl ⟨_, _, rfl, hGr, hf13_, .inr (by omega)⟩
    · have h5_0 := aw_eq_f (a := ((w.1 2 5).toInt : Int)) (b := (3 : Int)) rfl (show ((Int32.ofInt 3)).toInt = 3 from by decide) h5_0
      refine wk_aload_n xd_48f4f10d rfl ?_
      refine wk_iconst xd_94be35fe ?_
      obtain ⟨xr, wr, hCr, hGr, hFr, hr0, hr1⟩ := jrf_ok (w := w) (show (Int32.ofInt 1).toInt ≠ 0 from by decide) hG
      refine wk_call (kd := 0) (i := 80) xd_b8746d3e rfl (wk_cal (as := [.inr (.inr (some 2)), .inl (Int32.ofInt 1)]) (t := []) xl_726d40f2 rfl xn_b5464d7d xc_49a83f99 rfl rfl xv_780065b9 rfl) (cm_C_mono (by decide) hCr) ?_
      have hf18_ : jO2 w wr := fun k i x1 => (hFr k i (by omega)).trans ((fun _ _ _ => rfl) k i x1)
      refine wk_pop xd_8ca3d4b2 ?_
      refine wk_goto xd_2ebb84c5 (t := 39) rfl ?_
      refine wk_aload_n xd_666d0c44 rfl ?_
      obtain ⟨xg19_, hCg19_, hxg19_⟩ := jig_ok wr
      refine wk_call (kd := 0) (i := 87) xd_3f2cfabb rfl (wk_cal (as := [.inr (.inr (some 2))]) (t := []) xl_be386658 rfl xn_59a494c6 xc_7b6444b6 rfl rfl xv_433dc8e2 rfl) (cm_C_mono (by decide) hCg19_) ?_
      refine wk_if xd_f8817d60 (t := 48) rfl (fun h43_19 => ?_) (fun h43_19 => ?_)
      · have h43_19 := aw_ne_t (a := ((xg19_).toInt : Int)) (b := (0 : Int)) rfl hb_z h43_19
        have hg0 : (wr.1 2 11).toInt = 0 := by omega
        refine wk_aload_n xd_cc06d1e7 rfl ?_
        refine wk_getI xf_98967174 xd_5f53c528 ?_
        refine wk_istore_n xd_77ce6333 (by rw [xm_ade3567c]; rfl) rfl ?_
        refine wk_aload_n xd_3b7fcedb rfl ?_
        obtain ⟨wc21_, hCc21_, hGc21_, hFc21_, hxc21_⟩ := xs_61_078b38e8 (w := wr) hGr
        refine wk_call (kd := 0) (i := 55) xd_0616def4 rfl (wk_cal (as := [.inr (.inr (some 2))]) (t := []) xl_14b5b052 rfl xn_568f4fa7 xc_1d38a579 rfl rfl xv_65cfb41b rfl) (cm_C_mono (by decide) hCc21_) ?_
        have hf22_ : jO2 w wc21_ := fun k i x1 => ((hFc21_ k i (by omega)).1).trans (hf18_ k i x1)
        refine wk_iload_n xd_2680c6f5 rfl ?_
        exact wk_ireturn xd_5c1d103d xr_df255d1e rfl ⟨_, _, rfl, hGc21_, hf22_, .inl ⟨by omega, by omega⟩⟩
      · have h43_19 := aw_ne_f (a := ((xg19_).toInt : Int)) (b := (0 : Int)) rfl hb_z h43_19
        refine wk_iconst xd_65b20ee7 ?_
        exact wk_ireturn xd_0720fbd3 xr_df255d1e rfl ⟨_, _, rfl, hGr, hf18_, .inr (by omega)⟩
  obtain ⟨o, hC, x, w', rfl, a⟩ := h
  exact ⟨x, w', hC, a⟩
/-- what reading a valley may change -/
def jVt (w0 w : cm_W) : Prop := ∀ k i, k ≠ 2 → ¬ (18 ≤ k ∧ k ≤ 31) → ¬ (k = 32 ∧ 2 ≤ i) → k ≠ 1002 → w.1 k i = w0.1 k i
theorem jVt_rf {a : cm_W} : jVt a a := fun _ _ _ _ _ _ => rfl
theorem jrd_food {w : cm_W} (hL : jL 26 18 w) (hG : sv_w sg w) : ∃ x w', cm_C 5 234 [.inr (.inr (some 32))] w (some (.inl x), w') ∧ sv_w sg w' ∧ jVt w w' ∧ 0 ≤ x.toInt ∧ x.toInt ≤ 1 ∧ (x.toInt = 1 → jL 26 18 w') := by
  have b := hG 18 4
  rw [xg_f7b3c760] at b
  have b := hb_in b
  obtain ⟨F, eF⟩ : ∃ F : Nat, (w.1 18 4).toInt = (F : Int) := ⟨(w.1 18 4).toInt.toNat, by omega⟩
  have h : ∃ o, cm_C (4 + 1) 234 [.inr (.inr (some 32))] w o ∧ (fun o : cm_O => ∃ x w', o = (some (.inl x), w') ∧ sv_w sg w' ∧ jVt w w' ∧ 0 ≤ x.toInt ∧ x.toInt ≤ 1 ∧ (x.toInt = 1 → jL 26 18 w')) o := by
    refine wk_entry (by rw [xm_e73fdda6]; exact Nat.le_of_ble_eq_true rfl) ?_
    rw [show cm_ent 234 [.inr (.inr (some 32))] = [some (.inr (.inr (some 32))), none] from by unfold cm_ent; rw [xm_e73fdda6]; rfl]
    refine wk_aload_n xd_a32553b0 rfl ?_
    refine wk_getR xf_cf5804fc xd_058633e9 ?_
    refine wk_getI xf_08497d06 xd_2430a8f8 ?_
    refine wk_istore_n xd_67cb804e (by rw [xm_e73fdda6]; rfl) rfl ?_
    refine wk_iload_n xd_c4ffea4b rfl ?_
    refine wk_iconst xd_3a891e4b ?_
    refine wk_icmp xd_fa0341c6 (t := 22) rfl (fun h10_0 => ?_) (fun h10_0 => ?_)
    · have h10_0 := aw_lt_t (a := ((F : Int) : Int)) (b := (4 : Int)) (show ((w.1 18 4)).toInt = ((F : Int) : Int) from eF) (show ((Int32.ofInt 4)).toInt = 4 from by decide) h10_0
      refine wk_aload_n xd_f6223155 rfl ?_
      refine wk_getR xf_edb596be xd_d1cd8905 ?_
      obtain ⟨wNX, hCNX, hGNX, hFNX, hxNX⟩ := xs_61_078b38e8 (w := w) hG
      refine wk_call (kd := 0) (i := 72) xd_c5168135 rfl (wk_cal (as := [.inr (.inr (some 2))]) (t := []) xl_209b9f98 rfl xn_568f4fa7 xc_1d38a579 rfl rfl xv_65cfb41b rfl) (cm_C_mono (by decide) hCNX) ?_
      have hf2_ : jVt w wNX := fun k i x1 x2 x3 x4 => ((hFNX k i (by omega)).1).trans (jVt_rf k i x1 x2 x3 x4)
      refine wk_aload_n xd_807e4b4e rfl ?_
      refine wk_getR xf_cf5804fc xd_57c371f7 ?_
      refine wk_getR xf_8db03828 xd_5393d178 ?_
      refine wk_iload_n xd_10380f3c rfl ?_
      refine wk_aload_n xd_ec281f35 rfl ?_
      obtain ⟨xNM, wNM, hCNM, hGNM, hFNM, hxNM⟩ := xs_240_8c93d169 (w := wNX) hGNX
      refine wk_call (kd := 0) (i := 98) xd_0a7f4404 rfl (wk_cal (as := [.inr (.inr (some 32))]) (t := [.inl (w.1 18 4), .inr (.inr (some 20))]) xl_93467fd1 rfl xn_ea0ee8e0 xc_46748db1 rfl rfl xv_98e22893 rfl) (cm_C_mono (by decide) hCNM) ?_
      have hf3_ : jVt w wNM := fun k i x1 x2 x3 x4 => ((hFNM k i (by omega)).1).trans (hf2_ k i x1 x2 x3 x4)
      refine aw_lastore (i := F) xf_4834024e (show ((w.1 18 4)).toInt = ((F : Int) : Int) from eF) (by omega) (by omega) xd_41a00513 ?_
      refine wk_aload_n xd_461f6305 rfl ?_
      refine wk_getR xf_cf5804fc xd_baedbc82 ?_
      refine wk_getR xf_433b08b2 xd_b45f6306 ?_
      refine wk_iload_n xd_5720e3c3 rfl ?_
      refine wk_aload_n xd_2aacd5cb rfl ?_
      refine wk_getR xf_edb596be xd_c6a6b9a2 ?_
      refine wk_iconst xd_5a0edb62 ?_
      refine wk_bipush xd_2a9e5d70 ?_
      obtain ⟨xA, wA, hCA, hGA, hFA, hxA⟩ := jtu_ok (w := (cm_u2 wNM 20 F xNM)) (a := (Int32.ofInt 1)) (b := ((Int8.ofInt 60).toInt32)) (aw_u2G hGNM)
      refine wk_call (kd := 0) (i := 75) xd_63e1241a rfl (wk_cal (as := [.inr (.inr (some 2)), .inl (Int32.ofInt 1), .inl ((Int8.ofInt 60).toInt32)]) (t := [.inl (w.1 18 4), .inr (.inr (some 25))]) xl_fb991d45 rfl xn_4f3a315b xc_18628866 rfl rfl xv_017ac5ff rfl) (cm_C_mono (by decide) hCA) ?_
      have hf4_ : jVt w wA := fun k i x1 x2 x3 x4 => (hFA k i (by omega)).trans (hf3_ k i x1 x2 x3 x4)
      rw [(show ((Int32.ofInt 1)).toInt = 1 from by decide), (show (((Int8.ofInt 60).toInt32)).toInt = 60 from by decide)] at hxA
      refine aw_iastore (i := F) xf_367ef56a (show ((w.1 18 4)).toInt = ((F : Int) : Int) from eF) (by omega) (by omega) xd_817de34f ?_
      have hf5_ : jVt w (cm_u1 wA 25 F xA) := fun k i x1 x2 x3 x4 => (hs_u1_ne (by omega)).trans (hf4_ k i x1 x2 x3 x4)
      have hG6_ : sv_w sg (cm_u1 wA 25 F xA) := sv_w_u1 hGA (by rw [xh_6cf807e2 F (by omega)]; exact sv_in_top _)
      refine wk_aload_n xd_e9c19637 rfl ?_
      refine wk_getR xf_cf5804fc xd_0a2c67e3 ?_
      refine wk_getR xf_1db718ed xd_1094a8a3 ?_
      refine wk_iload_n xd_1568c518 rfl ?_
      refine wk_aload_n xd_e978d511 rfl ?_
      refine wk_getR xf_edb596be xd_d7e5fad8 ?_
      refine wk_iconst xd_ef211f7b ?_
      refine wk_iconst xd_4218ae4b ?_
      obtain ⟨xB, wB, hCB, hGB, hFB, hxB⟩ := jtu_ok (w := (cm_u1 wA 25 F xA)) (a := (Int32.ofInt 0)) (b := (Int32.ofInt 5)) hG6_
      refine wk_call (kd := 0) (i := 75) xd_06ef33a8 rfl (wk_cal (as := [.inr (.inr (some 2)), .inl (Int32.ofInt 0), .inl (Int32.ofInt 5)]) (t := [.inl (w.1 18 4), .inr (.inr (some 26))]) xl_fb991d45 rfl xn_4f3a315b xc_18628866 rfl rfl xv_017ac5ff rfl) (cm_C_mono (by decide) hCB) ?_
      have hf7_ : jVt w wB := fun k i x1 x2 x3 x4 => (hFB k i (by omega)).trans (hf5_ k i x1 x2 x3 x4)
      rw [(show ((Int32.ofInt 0)).toInt = 0 from by decide), (show ((Int32.ofInt 5)).toInt = 5 from by decide)] at hxB
      refine aw_iastore (i := F) xf_8bb499a4 (show ((w.1 18 4)).toInt = ((F : Int) : Int) from eF) (by omega) (by omega) xd_b3a78ef9 ?_
      have hf8_ : jVt w (cm_u1 wB 26 F xB) := fun k i x1 x2 x3 x4 => (hs_u1_ne (by omega)).trans (hf7_ k i x1 x2 x3 x4)
      have hG9_ : sv_w sg (cm_u1 wB 26 F xB) := sv_w_u1 hGB (by rw [xh_1b66d512 F (by omega)]; exact sv_in_top _)
      refine wk_aload_n xd_685db036 rfl ?_
      refine wk_getR xf_cf5804fc xd_f0bdb1b3 ?_
      refine wk_iload_n xd_0104d1ed rfl ?_
      refine wk_iconst xd_c198d303 ?_
      refine aw_iadd (a := ((F : Int) : Int)) (b := (1 : Int)) (e := ((F : Int) + 1 : Int)) xd_afc2c9c0 (show ((w.1 18 4)).toInt = ((F : Int) : Int) from eF) (show ((Int32.ofInt 1)).toInt = 1 from by decide) (by omega) (by omega) (by omega) (fun v10_ p10_ => ?_)
      refine wk_putI xf_463a354c (fun ci => wk_fitI ci) xd_02909fcc ?_
      have hf11_ : jVt w (cm_u1 (cm_u1 wB 26 F xB) 18 4 v10_) := fun k i x1 x2 x3 x4 => (hs_u1_ne (by omega)).trans (hf8_ k i x1 x2 x3 x4)
      have hG12_ : sv_w sg (cm_u1 (cm_u1 wB 26 F xB) 18 4 v10_) := sv_w_u1 hG9_ (by rw [xg_f7b3c760]; exact hb_mk (by rw [p10_]; omega) (by rw [p10_]; omega))
      refine wk_aload_n xd_8b48bbff rfl ?_
      refine wk_getR xf_edb596be xd_903505c9 ?_
      obtain ⟨xg13_, hCg13_, hxg13_⟩ := jig_ok (cm_u1 (cm_u1 wB 26 F xB) 18 4 v10_)
      refine wk_call (kd := 0) (i := 82) xd_9db42333 rfl (wk_cal (as := [.inr (.inr (some 2))]) (t := []) xl_d4769eac rfl xn_59a494c6 xc_7b6444b6 rfl rfl xv_433dc8e2 rfl) (cm_C_mono (by decide) hCg13_) ?_
      rw [show (cm_u1 (cm_u1 wB 26 F xB) 18 4 v10_).1 2 11 = wB.1 2 11 from rfl] at hxg13_
      refine wk_ireturn xd_0ce70d48 xr_702d7d21 (aw_bit (by omega) (by omega)) ⟨_, _, rfl, hG12_, hf11_, by omega, by omega, fun h f hf hv => ?_⟩
      by_cases e : f = F
      · subst e
        rw [hs_u1_ne (by omega), hs_u1_self]
        omega
      · have hv' : (f : Int) < (w.1 18 4).toInt := by
          rw [hs_u1_self, p10_] at hv
          rw [eF]
          omega
        have c := hL f hf hv'
        rw [hs_u1_ne (by omega), hs_u1_ne (by omega), hFB 26 f (by omega), hs_u1_ne (by omega), hFA 26 f (by omega)]
        show 0 ≤ (wNM.1 26 f).toInt ∧ (wNM.1 26 f).toInt ≤ 5
        rw [(hFNM 26 f (by omega)).1, (hFNX 26 f (by omega)).1]
        exact c
    · have h10_0 := aw_lt_f (a := ((F : Int) : Int)) (b := (4 : Int)) (show ((w.1 18 4)).toInt = ((F : Int) : Int) from eF) (show ((Int32.ofInt 4)).toInt = 4 from by decide) h10_0
      refine wk_aload_n xd_354f72a9 rfl ?_
      refine wk_getR xf_edb596be xd_d5380821 ?_
      refine wk_iconst xd_abca58c1 ?_
      obtain ⟨xr, wr, hCr, hGr, hFr, hr0, hr1⟩ := jrf_ok (w := w) (show (Int32.ofInt 4).toInt ≠ 0 from by decide) hG
      refine wk_call (kd := 0) (i := 69) xd_db860ec3 rfl (wk_cal (as := [.inr (.inr (some 2)), .inl (Int32.ofInt 4)]) (t := []) xl_297f1dc6 rfl xn_b5464d7d xc_49a83f99 rfl rfl xv_780065b9 rfl) (cm_C_mono (by decide) hCr) ?_
      have hf14_ : jVt w wr := fun k i x1 x2 x3 x4 => (hFr k i (by omega)).trans (jVt_rf k i x1 x2 x3 x4)
      exact wk_ireturn xd_e53b0050 xr_702d7d21 (aw_bit (by omega) (by omega)) ⟨_, _, rfl, hGr, hf14_, by omega, by omega, fun h => absurd h (by omega)⟩
  obtain ⟨o, hC, x, w', rfl, a⟩ := h
  exact ⟨x, w', hC, a⟩
theorem jrd_line {w : cm_W} (hL : jL 26 18 w) (hG : sv_w sg w) : ∃ x w', cm_C 6 235 [.inr (.inr (some 32))] w (some (.inl x), w') ∧ sv_w sg w' ∧ jVt w w' ∧ 0 ≤ x.toInt ∧ x.toInt ≤ 1 ∧ (x.toInt = 1 → jL 26 18 w') := by
  have h : ∃ o, cm_C (5 + 1) 235 [.inr (.inr (some 32))] w o ∧ (fun o : cm_O => ∃ x w', o = (some (.inl x), w') ∧ sv_w sg w' ∧ jVt w w' ∧ 0 ≤ x.toInt ∧ x.toInt ≤ 1 ∧ (x.toInt = 1 → jL 26 18 w')) o := by
    refine wk_entry (by rw [xm_4356a5ac]; exact Nat.le_of_ble_eq_true rfl) ?_
    rw [show cm_ent 235 [.inr (.inr (some 32))] = [some (.inr (.inr (some 32)))] from by unfold cm_ent; rw [xm_4356a5ac]; rfl]
    refine wk_aload_n xd_4438f527 rfl ?_
    refine wk_getR xf_76c67c6a xd_6f7483d1 ?_
    refine wk_getI xf_fb245953 xd_f2584103 ?_
    have hkw : (w.1 2 8).toInt < 0 ∨ 5 < (w.1 2 8).toInt ∨ (w.1 2 8).toInt = 0 ∨ (w.1 2 8).toInt = 1 ∨ (w.1 2 8).toInt = 2 ∨ (w.1 2 8).toInt = 3 ∨ (w.1 2 8).toInt = 4 ∨ (w.1 2 8).toInt = 5 := by omega
    rcases hkw with hkw | hkw | hkw | hkw | hkw | hkw | hkw | hkw
    · refine aw_tsd xd_54d0379e rfl (.inl hkw) (t := 74) rfl ?_
      refine wk_aload_n xd_9d47a316 rfl ?_
      refine wk_getR xf_76c67c6a xd_3e73fcbd ?_
      refine wk_iconst xd_b5671b1c ?_
      obtain ⟨xr, wr, hCr, hGr, hFr, hr0, hr1⟩ := jrf_ok (w := w) (show (Int32.ofInt 1).toInt ≠ 0 from by decide) hG
      refine wk_call (kd := 0) (i := 69) xd_e534ce1b rfl (wk_cal (as := [.inr (.inr (some 2)), .inl (Int32.ofInt 1)]) (t := []) xl_2798f517 rfl xn_b5464d7d xc_49a83f99 rfl rfl xv_780065b9 rfl) (cm_C_mono (by decide) hCr) ?_
      have hf2_ : jVt w wr := fun k i x1 x2 x3 x4 => (hFr k i (by omega)).trans (jVt_rf k i x1 x2 x3 x4)
      exact wk_ireturn xd_acbdfd3d xr_f78bb662 (aw_bit (by omega) (by omega)) ⟨_, _, rfl, hGr, hf2_, by omega, by omega, fun h => absurd h (by omega)⟩
    · refine aw_tsd xd_54d0379e rfl (.inr hkw) (t := 74) rfl ?_
      refine wk_aload_n xd_9d47a316 rfl ?_
      refine wk_getR xf_76c67c6a xd_3e73fcbd ?_
      refine wk_iconst xd_b5671b1c ?_
      obtain ⟨xr, wr, hCr, hGr, hFr, hr0, hr1⟩ := jrf_ok (w := w) (show (Int32.ofInt 1).toInt ≠ 0 from by decide) hG
      refine wk_call (kd := 0) (i := 69) xd_e534ce1b rfl (wk_cal (as := [.inr (.inr (some 2)), .inl (Int32.ofInt 1)]) (t := []) xl_2798f517 rfl xn_b5464d7d xc_49a83f99 rfl rfl xv_780065b9 rfl) (cm_C_mono (by decide) hCr) ?_
      have hf4_ : jVt w wr := fun k i x1 x2 x3 x4 => (hFr k i (by omega)).trans (jVt_rf k i x1 x2 x3 x4)
      exact wk_ireturn xd_acbdfd3d xr_f78bb662 (aw_bit (by omega) (by omega)) ⟨_, _, rfl, hGr, hf4_, by omega, by omega, fun h => absurd h (by omega)⟩
    · refine aw_tsw xd_54d0379e hkw (by omega) (by omega) (t := 44) rfl rfl ?_
      refine wk_aload_n xd_c5590a3e rfl ?_
      obtain ⟨xL, wL, hCL, hGL, hFL, hxL⟩ := xs_238_8c93d169 (w := w) hG
      refine wk_call (kd := 0) (i := 51) xd_890d5c26 rfl (wk_cal (as := [.inr (.inr (some 32))]) (t := []) xl_2ce679f1 rfl xn_c77b9399 xc_5aa08299 rfl rfl xv_fb2bee1e rfl) (cm_C_mono (by decide) hCL) ?_
      have hf5_ : jVt w wL := fun k i x1 x2 x3 x4 => ((hFL k i (by omega)).1).trans (jVt_rf k i x1 x2 x3 x4)
      have hLL : jL 26 18 wL := jL_eq (hFL 18 4 (by omega)).1 (fun f _ => (hFL 26 f (by omega)).1) hL
      exact wk_ireturn xd_88694036 xr_f78bb662 (aw_bit (by omega) (by omega)) ⟨_, _, rfl, hGL, hf5_, by omega, by omega, fun _ => hLL⟩
    · refine aw_tsw xd_54d0379e hkw (by omega) (by omega) (t := 49) rfl rfl ?_
      refine wk_aload_n xd_5ecf025f rfl ?_
      obtain ⟨xL, wL, hCL, hGL, hFL, hxL⟩ := xs_239_8c93d169 (w := w) hG
      refine wk_call (kd := 0) (i := 54) xd_82e954af rfl (wk_cal (as := [.inr (.inr (some 32))]) (t := []) xl_bad7ebb4 rfl xn_fa1bba29 xc_fcb341fd rfl rfl xv_0af1ebb4 rfl) (cm_C_mono (by decide) hCL) ?_
      have hf6_ : jVt w wL := fun k i x1 x2 x3 x4 => ((hFL k i (by omega)).1).trans (jVt_rf k i x1 x2 x3 x4)
      have hLL : jL 26 18 wL := jL_eq (hFL 18 4 (by omega)).1 (fun f _ => (hFL 26 f (by omega)).1) hL
      exact wk_ireturn xd_c1adaf63 xr_f78bb662 (aw_bit (by omega) (by omega)) ⟨_, _, rfl, hGL, hf6_, by omega, by omega, fun _ => hLL⟩
    · refine aw_tsw xd_54d0379e hkw (by omega) (by omega) (t := 54) rfl rfl ?_
      refine wk_aload_n xd_447c6f19 rfl ?_
      obtain ⟨xL, wL, hCL, hGL, hFL, hxL⟩ := xs_237_8c93d169 (w := w) hG
      refine wk_call (kd := 0) (i := 57) xd_08aa4157 rfl (wk_cal (as := [.inr (.inr (some 32))]) (t := []) xl_26832527 rfl xn_452b0448 xc_aef0cec0 rfl rfl xv_a0aac8df rfl) (cm_C_mono (by decide) hCL) ?_
      have hf7_ : jVt w wL := fun k i x1 x2 x3 x4 => ((hFL k i (by omega)).1).trans (jVt_rf k i x1 x2 x3 x4)
      have hLL : jL 26 18 wL := jL_eq (hFL 18 4 (by omega)).1 (fun f _ => (hFL 26 f (by omega)).1) hL
      exact wk_ireturn xd_9f4124f6 xr_f78bb662 (aw_bit (by omega) (by omega)) ⟨_, _, rfl, hGL, hf7_, by omega, by omega, fun _ => hLL⟩
    · refine aw_tsw xd_54d0379e hkw (by omega) (by omega) (t := 59) rfl rfl ?_
      refine wk_aload_n xd_dfea6778 rfl ?_
      obtain ⟨xL, wL, hCL, hGL, hFL, hL0, hL1, hLL⟩ := jrd_food (w := w) hL hG
      refine wk_call (kd := 0) (i := 60) xd_e2d5b9b2 rfl (wk_cal (as := [.inr (.inr (some 32))]) (t := []) xl_1bfbaf1f rfl xn_028b7e98 xc_9fb58d2d rfl rfl xv_69b5c060 rfl) (cm_C_mono (by decide) hCL) ?_
      exact wk_ireturn xd_f8d50223 xr_f78bb662 (aw_bit (by omega) (by omega)) ⟨_, _, rfl, hGL, hFL, by omega, by omega, hLL⟩
    · refine aw_tsw xd_54d0379e hkw (by omega) (by omega) (t := 64) rfl rfl ?_
      refine wk_aload_n xd_1c62c631 rfl ?_
      obtain ⟨xL, wL, hCL, hGL, hFL, hxL⟩ := xs_236_8c93d169 (w := w) hG
      refine wk_call (kd := 0) (i := 63) xd_6896ac4a rfl (wk_cal (as := [.inr (.inr (some 32))]) (t := []) xl_2ee1d0c2 rfl xn_784b2df8 xc_08e30da4 rfl rfl xv_5170cd75 rfl) (cm_C_mono (by decide) hCL) ?_
      have hf8_ : jVt w wL := fun k i x1 x2 x3 x4 => ((hFL k i (by omega)).1).trans (jVt_rf k i x1 x2 x3 x4)
      have hLL : jL 26 18 wL := jL_eq (hFL 18 4 (by omega)).1 (fun f _ => (hFL 26 f (by omega)).1) hL
      exact wk_ireturn xd_a63989b6 xr_f78bb662 (aw_bit (by omega) (by omega)) ⟨_, _, rfl, hGL, hf8_, by omega, by omega, fun _ => hLL⟩
    · refine aw_tsw xd_54d0379e hkw (by omega) (by omega) (t := 69) rfl rfl ?_
      refine wk_aload_n xd_87f4ce50 rfl ?_
      obtain ⟨xL, wL, hCL, hGL, hFL, hxL⟩ := xs_233_8c93d169 (w := w) hG
      refine wk_call (kd := 0) (i := 66) xd_6372a4c3 rfl (wk_cal (as := [.inr (.inr (some 32))]) (t := []) xl_07728465 rfl xn_b0aba288 xc_5b2cc993 rfl rfl xv_d120d2f5 rfl) (cm_C_mono (by decide) hCL) ?_
      have hf9_ : jVt w wL := fun k i x1 x2 x3 x4 => ((hFL k i (by omega)).1).trans (jVt_rf k i x1 x2 x3 x4)
      have hLL : jL 26 18 wL := jL_eq (hFL 18 4 (by omega)).1 (fun f _ => (hFL 26 f (by omega)).1) hL
      exact wk_ireturn xd_effd66e3 xr_f78bb662 (aw_bit (by omega) (by omega)) ⟨_, _, rfl, hGL, hf9_, by omega, by omega, fun _ => hLL⟩
  obtain ⟨o, hC, x, w', rfl, a⟩ := h
  exact ⟨x, w', hC, a⟩
theorem jra_l (w1 : cm_W) (Q : cm_O → Prop) (hk : ∀ x w, jVt w1 w → sv_w sg w → (x.toInt = -1 ∨ (0 ≤ x.toInt ∧ jL 26 18 w)) → Q (some (.inl x), w)) : ∀ (n i : Nat) (z : Int32) (w : cm_W), n + i = 901 → z.toInt = (i : Int) → jVt w1 w → jL 26 18 w → sv_w sg w → cm_X (cm_C 6) 88 19 [some (.inr (.inr (some 32))), some (.inl z)] [] w Q := by
  intro n
  induction n with
  | zero =>
    intro i z w hi hz hF hL hG
    refine wk_iload_n xd_6562b62a rfl ?_
    refine wk_sipush xd_2c82b821 ?_
    refine wk_icmp xd_c281bb92 (t := 79) rfl (fun h23_0 => ?_) (fun h23_0 => ?_)
    · have h23_0 := aw_gt_t (a := ((i : Int) : Int)) (b := (900 : Int)) hz (show (((Int16.ofInt 900).toInt32)).toInt = 900 from by decide) h23_0
      refine wk_iconst xd_d9c01fe8 ?_
      exact wk_ireturn xd_20c2010f xr_6e309826 rfl (hk _ _ hF hG (.inl (by decide)))
    · have h23_0 := aw_gt_f (a := ((i : Int) : Int)) (b := (900 : Int)) hz (show (((Int16.ofInt 900).toInt32)).toInt = 900 from by decide) h23_0
      exfalso
      omega
  | succ n ih =>
    intro i z w hi hz hF hL hG
    refine wk_iload_n xd_6562b62a rfl ?_
    refine wk_sipush xd_2c82b821 ?_
    refine wk_icmp xd_c281bb92 (t := 79) rfl (fun h23_1 => ?_) (fun h23_1 => ?_)
    · have h23_1 := aw_gt_t (a := ((i : Int) : Int)) (b := (900 : Int)) hz (show (((Int16.ofInt 900).toInt32)).toInt = 900 from by decide) h23_1
      exfalso
      omega
    · have h23_1 := aw_gt_f (a := ((i : Int) : Int)) (b := (900 : Int)) hz (show (((Int16.ofInt 900).toInt32)).toInt = 900 from by decide) h23_1
      refine wk_aload_n xd_2c1f3e57 rfl ?_
      refine wk_getR xf_03fa27d8 xd_3f19d526 ?_
      refine wk_getI xf_15d9b336 xd_b6bf99e9 ?_
      refine wk_if xd_f158715d (t := 52) rfl (fun h33_2 => ?_) (fun h33_2 => ?_)
      · have h33_2 := aw_ne_t (a := ((w.1 2 5).toInt : Int)) (b := (0 : Int)) rfl hb_z h33_2
        refine wk_aload_n xd_1d5ba8b3 rfl ?_
        obtain ⟨xL, wL, hCL, hGL, hFL, hL0, hL1, hLL⟩ := jrd_line (w := w) hL hG
        refine wk_call (kd := 0) (i := 41) xd_66647642 rfl (wk_cal (as := [.inr (.inr (some 32))]) (t := []) xl_06227104 rfl xn_3feb5728 xc_39a64e49 rfl rfl xv_986fc5ca rfl) (cm_C_mono (by decide) hCL) ?_
        have hfL : jVt w1 wL := fun k i x1 x2 x3 x4 => (hFL k i x1 x2 x3 x4).trans (hF k i x1 x2 x3 x4)
        refine wk_if xd_447d431a (t := 71) rfl (fun h56_3 => ?_) (fun h56_3 => ?_)
        · have h56_3 := aw_eq_t (a := ((xL).toInt : Int)) (b := (0 : Int)) rfl hb_z h56_3
          refine wk_iconst xd_f5cb8c5f ?_
          exact wk_ireturn xd_189c1832 xr_6e309826 rfl (hk _ _ hfL hGL (.inl (by decide)))
        · have h56_3 := aw_eq_f (a := ((xL).toInt : Int)) (b := (0 : Int)) rfl hb_z h56_3
          refine wk_aload_n xd_6b07d2a8 rfl ?_
          refine wk_getR xf_03fa27d8 xd_f5bca8aa ?_
          refine wk_bipush xd_ceaf386c ?_
          obtain ⟨xS, wS, hCS, hGS, hFS, hxS⟩ := xs_190_4ced0f8d (w := wL) (a1 := ((Int8.ofInt 59).toInt32)) (by have e9 : (((Int8.ofInt 59).toInt32)).toInt = (59 : Int) := (show (((Int8.ofInt 59).toInt32)).toInt = 59 from by decide); exact ⟨by omega, by omega⟩) hGL
          refine wk_call (kd := 0) (i := 44) xd_34ee8a71 rfl (wk_cal (as := [.inr (.inr (some 2)), .inl ((Int8.ofInt 59).toInt32)]) (t := []) xl_fcfa5d64 rfl xn_fe71b019 xc_c4c1f567 rfl rfl xv_89786e0c rfl) (cm_C_mono (by decide) hCS) ?_
          have hf5_ : jVt w1 wS := fun k i x1 x2 x3 x4 => ((hFS k i (by omega)).1).trans (hfL k i x1 x2 x3 x4)
          refine wk_if xd_2c9a9f7f (t := 73) rfl (fun h68_5 => ?_) (fun h68_5 => ?_)
          · have h68_5 := aw_ne_t (a := ((xS).toInt : Int)) (b := (0 : Int)) rfl hb_z h68_5
            refine aw_iinc (a := ((i : Int) : Int)) (b := (1 : Int)) (e := ((i : Int) + 1 : Int)) xd_d0d96f34 (by rw [xm_99812ed2]; rfl) rfl rfl hz (show ((Int32.ofInt 1)).toInt = 1 from by decide) (by omega) (by omega) (by omega) (fun v7_ p7_ => ?_)
            refine wk_goto xd_f2cc7fbc (t := 19) rfl ?_
            exact ih (i + 1) _ wS (by omega) (by rw [p7_]; omega) hf5_ (jL_eq (hFS 18 4 (by omega)).1 (fun f _ => (hFS 26 f (by omega)).1) (hLL (by omega))) hGS
          · have h68_5 := aw_ne_f (a := ((xS).toInt : Int)) (b := (0 : Int)) rfl hb_z h68_5
            refine wk_iconst xd_f5cb8c5f ?_
            exact wk_ireturn xd_189c1832 xr_6e309826 rfl (hk _ _ hf5_ hGS (.inl (by decide)))
      · have h33_2 := aw_ne_f (a := ((w.1 2 5).toInt : Int)) (b := (0 : Int)) rfl hb_z h33_2
        refine wk_aload_n xd_ad3a5b70 rfl ?_
        refine wk_getR xf_03fa27d8 xd_9a924528 ?_
        obtain ⟨xK, wK, hCK, hGK, hFK, hxK⟩ := xs_59_4187aa83 (w := w) hG
        refine wk_call (kd := 0) (i := 37) xd_be677e93 rfl (wk_cal (as := [.inr (.inr (some 2))]) (t := []) xl_4baad469 rfl xn_e06b76c8 xc_647a832b rfl rfl xv_dbeffa2c rfl) (cm_C_mono (by decide) hCK) ?_
        have hf8_ : jVt w1 wK := fun k i x1 x2 x3 x4 => ((hFK k i (by omega)).1).trans (hF k i x1 x2 x3 x4)
        refine wk_if xd_e2c79e52 (t := 50) rfl (fun h43_8 => ?_) (fun h43_8 => ?_)
        · have h43_8 := aw_eq_t (a := ((xK).toInt : Int)) (b := (0 : Int)) rfl hb_z h43_8
          refine wk_iconst xd_450a573e ?_
          exact wk_ireturn xd_4dd25351 xr_6e309826 rfl (hk _ _ hf8_ hGK (.inl (by decide)))
        · have h43_8 := aw_eq_f (a := ((xK).toInt : Int)) (b := (0 : Int)) rfl hb_z h43_8
          refine wk_iload_n xd_fb4196da rfl ?_
          refine wk_goto xd_235b8f8b (t := 51) rfl ?_
          exact wk_ireturn xd_4dd25351 xr_6e309826 rfl (hk _ _ hf8_ hGK (.inr ⟨by omega, jL_eq (hFK 18 4 (by omega)).1 (fun f _ => (hFK 26 f (by omega)).1) hL⟩))
theorem jcl_ok {w : cm_W} (hG : sv_w sg w) : ∃ w', cm_C 1 84 [.inr (.inr (some 18))] w (none, w') ∧ sv_w sg w' ∧ (∀ k i, k ≠ 18 → w'.1 k i = w.1 k i) ∧ (w'.1 18 4).toInt = 0 := by
  have h : ∃ o, cm_C (0 + 1) 84 [.inr (.inr (some 18))] w o ∧ (fun o : cm_O => ∃ w', o = (none, w') ∧ sv_w sg w' ∧ (∀ k i, k ≠ 18 → w'.1 k i = w.1 k i) ∧ (w'.1 18 4).toInt = 0) o := by
    refine wk_entry (by rw [xm_c5789269]; exact Nat.le_of_ble_eq_true rfl) ?_
    rw [show cm_ent 84 [.inr (.inr (some 18))] = [some (.inr (.inr (some 18)))] from by unfold cm_ent; rw [xm_c5789269]; rfl]
    refine wk_aload_n xd_dd8ea9b9 rfl ?_
    refine wk_bipush xd_c0e5b029 ?_
    refine wk_putI xf_5bffb3a5 (fun ci => wk_fitI ci) xd_161977b7 ?_
    have hG1_ : sv_w sg (cm_u1 w 18 0 ((Int8.ofInt 10).toInt32)) := sv_w_u1 hG (by rw [xg_72a348a8]; exact sv_in_top _)
    refine wk_aload_n xd_3044dbc3 rfl ?_
    refine wk_iconst xd_1e3d7006 ?_
    refine wk_putI xf_566e8504 (fun ci => wk_fitI ci) xd_654c7a4f ?_
    have hG2_ : sv_w sg (cm_u1 (cm_u1 w 18 0 ((Int8.ofInt 10).toInt32)) 18 1 (Int32.ofInt 0)) := sv_w_u1 hG1_ (by rw [xg_9d612396]; exact sv_in_top _)
    refine wk_aload_n xd_a17bb21e rfl ?_
    refine wk_iconst xd_6b68f3c8 ?_
    refine wk_putI xf_e9d1fd9a (fun ci => wk_fitI ci) xd_3052c743 ?_
    have hG3_ : sv_w sg (cm_u1 (cm_u1 (cm_u1 w 18 0 ((Int8.ofInt 10).toInt32)) 18 1 (Int32.ofInt 0)) 18 2 (Int32.ofInt 0)) := sv_w_u1 hG2_ (by rw [xg_76569895]; exact sv_in_top _)
    refine wk_aload_n xd_d7c22ab0 rfl ?_
    refine wk_iconst xd_20e10408 ?_
    refine wk_putI xf_f12f84a8 (fun ci => wk_fitI ci) xd_d8f0a118 ?_
    have hG4_ : sv_w sg (cm_u1 (cm_u1 (cm_u1 (cm_u1 w 18 0 ((Int8.ofInt 10).toInt32)) 18 1 (Int32.ofInt 0)) 18 2 (Int32.ofInt 0)) 18 3 (Int32.ofInt 0)) := sv_w_u1 hG3_ (by rw [xg_a5e093b5]; exact hb_mk (by rw [(show ((Int32.ofInt 0)).toInt = 0 from by decide)]; omega) (by rw [(show ((Int32.ofInt 0)).toInt = 0 from by decide)]; omega))
    refine wk_aload_n xd_f9651b36 rfl ?_
    refine wk_iconst xd_1d8dcaf5 ?_
    refine wk_putI xf_88f290cb (fun ci => wk_fitI ci) xd_8161b514 ?_
    have hG5_ : sv_w sg (cm_u1 (cm_u1 (cm_u1 (cm_u1 (cm_u1 w 18 0 ((Int8.ofInt 10).toInt32)) 18 1 (Int32.ofInt 0)) 18 2 (Int32.ofInt 0)) 18 3 (Int32.ofInt 0)) 18 4 (Int32.ofInt 0)) := sv_w_u1 hG4_ (by rw [xg_f7b3c760]; exact hb_mk (by rw [(show ((Int32.ofInt 0)).toInt = 0 from by decide)]; omega) (by rw [(show ((Int32.ofInt 0)).toInt = 0 from by decide)]; omega))
    refine wk_aload_n xd_8fdc8398 rfl ?_
    refine wk_iconst xd_56043d35 ?_
    refine wk_putI xf_9b3e89f9 (fun ci => wk_fitI ci) xd_60175441 ?_
    have hG6_ : sv_w sg (cm_u1 (cm_u1 (cm_u1 (cm_u1 (cm_u1 (cm_u1 w 18 0 ((Int8.ofInt 10).toInt32)) 18 1 (Int32.ofInt 0)) 18 2 (Int32.ofInt 0)) 18 3 (Int32.ofInt 0)) 18 4 (Int32.ofInt 0)) 18 5 (Int32.ofInt 0)) := sv_w_u1 hG5_ (by rw [xg_a05c9dfb]; exact hb_mk (by rw [(show ((Int32.ofInt 0)).toInt = 0 from by decide)]; omega) (by rw [(show ((Int32.ofInt 0)).toInt = 0 from by decide)]; omega))
    refine wk_aload_n xd_78407e11 rfl ?_
    refine wk_iconst xd_86fe2021 ?_
    refine wk_putI xf_a813b404 (fun ci => wk_fitI ci) xd_58a066e6 ?_
    have hG7_ : sv_w sg (cm_u1 (cm_u1 (cm_u1 (cm_u1 (cm_u1 (cm_u1 (cm_u1 w 18 0 ((Int8.ofInt 10).toInt32)) 18 1 (Int32.ofInt 0)) 18 2 (Int32.ofInt 0)) 18 3 (Int32.ofInt 0)) 18 4 (Int32.ofInt 0)) 18 5 (Int32.ofInt 0)) 18 6 (Int32.ofInt 0)) := sv_w_u1 hG6_ (by rw [xg_0e37d5d0]; exact hb_mk (by rw [(show ((Int32.ofInt 0)).toInt = 0 from by decide)]; omega) (by rw [(show ((Int32.ofInt 0)).toInt = 0 from by decide)]; omega))
    exact wk_return xd_9334b42f xr_95063b6f ⟨_, rfl, hG7_, fun k i hk => by rw [hs_u1_ne (by omega), hs_u1_ne (by omega), hs_u1_ne (by omega), hs_u1_ne (by omega), hs_u1_ne (by omega), hs_u1_ne (by omega), hs_u1_ne (by omega)], by show (Int32.ofInt 0).toInt = 0; decide⟩
  obtain ⟨o, hC, w', rfl, a⟩ := h
  exact ⟨w', hC, a⟩
theorem jra_ok {w : cm_W} (hG : sv_w sg w) : ∃ x w', cm_C 7 88 [.inr (.inr (some 32))] w (some (.inl x), w') ∧ sv_w sg w' ∧ jVt w w' ∧ (x.toInt = -1 ∨ (0 ≤ x.toInt ∧ jL 26 18 w')) := by
  have h : ∃ o, cm_C (6 + 1) 88 [.inr (.inr (some 32))] w o ∧ (fun o : cm_O => ∃ x w', o = (some (.inl x), w') ∧ sv_w sg w' ∧ jVt w w' ∧ (x.toInt = -1 ∨ (0 ≤ x.toInt ∧ jL 26 18 w'))) o := by
    refine wk_entry (by rw [xm_99812ed2]; exact Nat.le_of_ble_eq_true rfl) ?_
    rw [show cm_ent 88 [.inr (.inr (some 32))] = [some (.inr (.inr (some 32))), none] from by unfold cm_ent; rw [xm_99812ed2]; rfl]
    refine wk_aload_n xd_a23312db rfl ?_
    refine wk_getR xf_4099a588 xd_8254f195 ?_
    obtain ⟨wc, hCc, hGc, hFc, hc0⟩ := jcl_ok (w := w) hG
    refine wk_call (kd := 0) (i := 19) xd_246193c9 rfl (wk_cal (as := [.inr (.inr (some 18))]) (t := []) xl_a2a0703f rfl xn_a465a1a7 xc_49288de5 rfl rfl xv_a388815a rfl) (cm_C_mono (by decide) hCc) ?_
    have hf1_ : jVt w wc := fun k i x1 x2 x3 x4 => (hFc k i (by omega)).trans (jVt_rf k i x1 x2 x3 x4)
    refine wk_aload_n xd_d48a8a75 rfl ?_
    refine wk_iconst xd_1511b10a ?_
    refine wk_putI xf_b21e535d (fun _ => aw_fb (.inl (by decide))) xd_ac7a9505 ?_
    have hf2_ : jVt w (cm_u1 wc 32 2 (Int32.ofInt 0)) := fun k i x1 x2 x3 x4 => (hs_u1_ne (by omega)).trans (hf1_ k i x1 x2 x3 x4)
    have hG3_ : sv_w sg (cm_u1 wc 32 2 (Int32.ofInt 0)) := sv_w_u1 hGc (by rw [xg_4d417361]; exact hb_mk (by rw [(show ((Int32.ofInt 0)).toInt = 0 from by decide)]; omega) (by rw [(show ((Int32.ofInt 0)).toInt = 0 from by decide)]; omega))
    refine wk_aload_n xd_745d36ec rfl ?_
    refine wk_iconst xd_03fd2c6a ?_
    refine wk_putI xf_18299187 (fun _ => aw_fb (.inl (by decide))) xd_27d58590 ?_
    have hf4_ : jVt w (cm_u1 (cm_u1 wc 32 2 (Int32.ofInt 0)) 32 3 (Int32.ofInt 0)) := fun k i x1 x2 x3 x4 => (hs_u1_ne (by omega)).trans (hf2_ k i x1 x2 x3 x4)
    have hG5_ : sv_w sg (cm_u1 (cm_u1 wc 32 2 (Int32.ofInt 0)) 32 3 (Int32.ofInt 0)) := sv_w_u1 hG3_ (by rw [xg_4cf48e7c]; exact hb_mk (by rw [(show ((Int32.ofInt 0)).toInt = 0 from by decide)]; omega) (by rw [(show ((Int32.ofInt 0)).toInt = 0 from by decide)]; omega))
    refine wk_iconst xd_5f5cbf6a ?_
    refine wk_istore_n xd_3fef2232 (by rw [xm_99812ed2]; rfl) rfl ?_
    exact jra_l (cm_u1 (cm_u1 wc 32 2 (Int32.ofInt 0)) 32 3 (Int32.ofInt 0)) _ (fun x w2 h1 h2 h3 => ⟨x, w2, rfl, h2, fun k i x1 x2 x3 x4 => (h1 k i x1 x2 x3 x4).trans (hf4_ k i x1 x2 x3 x4), h3⟩) 901 0 _ (cm_u1 (cm_u1 wc 32 2 (Int32.ofInt 0)) 32 3 (Int32.ofInt 0)) (by omega) (by decide) jVt_rf (fun f hf hv => absurd hv (by show ¬ (f : Int) < (wc.1 18 4).toInt; omega)) hG5_
  obtain ⟨o, hC, x, w', rfl, a⟩ := h
  exact ⟨x, w', hC, a⟩
theorem jot_900 {w : cm_W} {a : Int32} (ha : a.toInt = 900) (hG : sv_w sg w) : ∃ w', cm_C 4 33 [.inr (.inr (some 0)), .inl a] w (none, w') ∧ sv_w sg w' ∧ (∀ k i, k ≠ 2 → ¬ (k = 0 ∧ i = 1) → w'.1 k i = w.1 k i) ∧ (w'.1 0 1).toInt = 0 := by
  have h : ∃ o, cm_C (3 + 1) 33 [.inr (.inr (some 0)), .inl a] w o ∧ (fun o : cm_O => ∃ w', o = (none, w') ∧ sv_w sg w' ∧ (∀ k i, k ≠ 2 → ¬ (k = 0 ∧ i = 1) → w'.1 k i = w.1 k i) ∧ (w'.1 0 1).toInt = 0) o := by
    refine wk_entry (by rw [xm_8496ef00]; exact Nat.le_of_ble_eq_true rfl) ?_
    rw [show cm_ent 33 [.inr (.inr (some 0)), .inl a] = [some (.inr (.inr (some 0))), some (.inl a)] from by unfold cm_ent; rw [xm_8496ef00]; rfl]
    refine wk_aload_n xd_745b29d6 rfl ?_
    refine wk_getR xf_953a4ff7 xd_7e617425 ?_
    refine wk_aload_n xd_74078845 rfl ?_
    have g1 := hG 0 1
    rw [xg_1bc18e31] at g1
    have g1 := hb_in g1
    refine wk_getI xf_aadea398 xd_94667bd8 ?_
    refine wk_iload_n xd_1381902d rfl ?_
    obtain ⟨wo, hCo, hGo, hFo, hxo⟩ := xs_62_23377289 (w := w) (a1 := (w.1 0 1)) (a2 := a) (by have e9 : ((w.1 0 1)).toInt = ((w.1 0 1).toInt : Int) := rfl; exact ⟨by omega, by omega⟩) (by have e9 : (a).toInt = (900 : Int) := ha; exact ⟨by omega, by omega⟩) hG
    refine wk_call (kd := 0) (i := 113) xd_096058b8 rfl (wk_cal (as := [.inr (.inr (some 2)), .inl (w.1 0 1), .inl a]) (t := []) xl_8a7af753 rfl xn_ff21545b xc_63e072e9 rfl rfl xv_76e78d68 rfl) (cm_C_mono (by decide) hCo) ?_
    refine wk_aload_n xd_0a3a226a rfl ?_
    refine wk_iconst xd_d5951767 ?_
    refine wk_putI xf_66f0d799 (fun ci => wk_fitI ci) xd_2c88408b ?_
    have hG1_ : sv_w sg (cm_u1 wo 0 1 (Int32.ofInt 0)) := sv_w_u1 hGo (by rw [xg_1bc18e31]; exact hb_mk (by rw [(show ((Int32.ofInt 0)).toInt = 0 from by decide)]; omega) (by rw [(show ((Int32.ofInt 0)).toInt = 0 from by decide)]; omega))
    exact wk_return xd_4b90c2dd xr_1d96acab ⟨_, rfl, hG1_, fun k i h1 h2 => (hs_u1_ne (by omega)).trans (hFo k i (by omega)).1, by rw [hs_u1_self]; decide⟩
  obtain ⟨o, hC, w', rfl, a⟩ := h
  exact ⟨w', hC, a⟩
theorem jot_400 {w : cm_W} {a : Int32} (ha : a.toInt = 400) (hG : sv_w sg w) : ∃ w', cm_C 4 33 [.inr (.inr (some 0)), .inl a] w (none, w') ∧ sv_w sg w' ∧ (∀ k i, k ≠ 2 → ¬ (k = 0 ∧ i = 1) → w'.1 k i = w.1 k i) ∧ (w'.1 0 1).toInt = 0 := by
  have h : ∃ o, cm_C (3 + 1) 33 [.inr (.inr (some 0)), .inl a] w o ∧ (fun o : cm_O => ∃ w', o = (none, w') ∧ sv_w sg w' ∧ (∀ k i, k ≠ 2 → ¬ (k = 0 ∧ i = 1) → w'.1 k i = w.1 k i) ∧ (w'.1 0 1).toInt = 0) o := by
    refine wk_entry (by rw [xm_8496ef00]; exact Nat.le_of_ble_eq_true rfl) ?_
    rw [show cm_ent 33 [.inr (.inr (some 0)), .inl a] = [some (.inr (.inr (some 0))), some (.inl a)] from by unfold cm_ent; rw [xm_8496ef00]; rfl]
    refine wk_aload_n xd_745b29d6 rfl ?_
    refine wk_getR xf_953a4ff7 xd_7e617425 ?_
    refine wk_aload_n xd_74078845 rfl ?_
    have g1 := hG 0 1
    rw [xg_1bc18e31] at g1
    have g1 := hb_in g1
    refine wk_getI xf_aadea398 xd_94667bd8 ?_
    refine wk_iload_n xd_1381902d rfl ?_
    obtain ⟨wo, hCo, hGo, hFo, hxo⟩ := xs_62_de3590a7 (w := w) (a1 := (w.1 0 1)) (a2 := a) (by have e9 : ((w.1 0 1)).toInt = ((w.1 0 1).toInt : Int) := rfl; exact ⟨by omega, by omega⟩) (by have e9 : (a).toInt = (400 : Int) := ha; exact ⟨by omega, by omega⟩) hG
    refine wk_call (kd := 0) (i := 113) xd_096058b8 rfl (wk_cal (as := [.inr (.inr (some 2)), .inl (w.1 0 1), .inl a]) (t := []) xl_8a7af753 rfl xn_ff21545b xc_63e072e9 rfl rfl xv_76e78d68 rfl) (cm_C_mono (by decide) hCo) ?_
    refine wk_aload_n xd_0a3a226a rfl ?_
    refine wk_iconst xd_d5951767 ?_
    refine wk_putI xf_66f0d799 (fun ci => wk_fitI ci) xd_2c88408b ?_
    have hG1_ : sv_w sg (cm_u1 wo 0 1 (Int32.ofInt 0)) := sv_w_u1 hGo (by rw [xg_1bc18e31]; exact hb_mk (by rw [(show ((Int32.ofInt 0)).toInt = 0 from by decide)]; omega) (by rw [(show ((Int32.ofInt 0)).toInt = 0 from by decide)]; omega))
    exact wk_return xd_4b90c2dd xr_1d96acab ⟨_, rfl, hG1_, fun k i h1 h2 => (hs_u1_ne (by omega)).trans (hFo k i (by omega)).1, by rw [hs_u1_self]; decide⟩
  obtain ⟨o, hC, w', rfl, a⟩ := h
  exact ⟨w', hC, a⟩
theorem jot_200 {w : cm_W} {a : Int32} (ha : a.toInt = 200) (hG : sv_w sg w) : ∃ w', cm_C 4 33 [.inr (.inr (some 0)), .inl a] w (none, w') ∧ sv_w sg w' ∧ (∀ k i, k ≠ 2 → ¬ (k = 0 ∧ i = 1) → w'.1 k i = w.1 k i) ∧ (w'.1 0 1).toInt = 0 := by
  have h : ∃ o, cm_C (3 + 1) 33 [.inr (.inr (some 0)), .inl a] w o ∧ (fun o : cm_O => ∃ w', o = (none, w') ∧ sv_w sg w' ∧ (∀ k i, k ≠ 2 → ¬ (k = 0 ∧ i = 1) → w'.1 k i = w.1 k i) ∧ (w'.1 0 1).toInt = 0) o := by
    refine wk_entry (by rw [xm_8496ef00]; exact Nat.le_of_ble_eq_true rfl) ?_
    rw [show cm_ent 33 [.inr (.inr (some 0)), .inl a] = [some (.inr (.inr (some 0))), some (.inl a)] from by unfold cm_ent; rw [xm_8496ef00]; rfl]
    refine wk_aload_n xd_745b29d6 rfl ?_
    refine wk_getR xf_953a4ff7 xd_7e617425 ?_
    refine wk_aload_n xd_74078845 rfl ?_
    have g1 := hG 0 1
    rw [xg_1bc18e31] at g1
    have g1 := hb_in g1
    refine wk_getI xf_aadea398 xd_94667bd8 ?_
    refine wk_iload_n xd_1381902d rfl ?_
    obtain ⟨wo, hCo, hGo, hFo, hxo⟩ := xs_62_ede5cc43 (w := w) (a1 := (w.1 0 1)) (a2 := a) (by have e9 : ((w.1 0 1)).toInt = ((w.1 0 1).toInt : Int) := rfl; exact ⟨by omega, by omega⟩) (by have e9 : (a).toInt = (200 : Int) := ha; exact ⟨by omega, by omega⟩) hG
    refine wk_call (kd := 0) (i := 113) xd_096058b8 rfl (wk_cal (as := [.inr (.inr (some 2)), .inl (w.1 0 1), .inl a]) (t := []) xl_8a7af753 rfl xn_ff21545b xc_63e072e9 rfl rfl xv_76e78d68 rfl) (cm_C_mono (by decide) hCo) ?_
    refine wk_aload_n xd_0a3a226a rfl ?_
    refine wk_iconst xd_d5951767 ?_
    refine wk_putI xf_66f0d799 (fun ci => wk_fitI ci) xd_2c88408b ?_
    have hG1_ : sv_w sg (cm_u1 wo 0 1 (Int32.ofInt 0)) := sv_w_u1 hGo (by rw [xg_1bc18e31]; exact hb_mk (by rw [(show ((Int32.ofInt 0)).toInt = 0 from by decide)]; omega) (by rw [(show ((Int32.ofInt 0)).toInt = 0 from by decide)]; omega))
    exact wk_return xd_4b90c2dd xr_1d96acab ⟨_, rfl, hG1_, fun k i h1 h2 => (hs_u1_ne (by omega)).trans (hFo k i (by omega)).1, by rw [hs_u1_self]; decide⟩
  obtain ⟨o, hC, w', rfl, a⟩ := h
  exact ⟨w', hC, a⟩
theorem jra_ok0 {w : cm_W} (hG : sv_w sg w) : ∃ x w', cm_C 7 88 [.inr (.inr (some 32))] w (some (.inl x), w') ∧ sv_w sg w' ∧ jVt w w' ∧ (x.toInt = -1 ∨ (0 ≤ x.toInt ∧ jL 26 18 w')) ∧ w'.1 0 1 = w.1 0 1 := by
  obtain ⟨x, w', a1, a2, a3, a4⟩ := jra_ok (w := w) hG
  exact ⟨x, w', a1, a2, a3, a4, a3 0 1 (by decide) (by omega) (by omega) (by decide)⟩
/-- valley of the class ends -/
theorem jc_valley {w : cm_W} (hc : jCl w) (hR1 : jR 106 w) (hG : sv_w sg w) : ∃ x w', cm_C 8 47 [.inr (.inr (some 0))] w (some (.inl x), w') ∧ sv_w sg w' ∧ jCl w' ∧ jR 106 w' ∧ (∀ c i, c ≠ 0 → ¬ (2 ≤ c ∧ c ≤ 39) → c ≠ 47 → ¬ (c = 106 ∧ i ≤ 1) → c ≠ 1002 → c ≠ 1001 → w'.1 c i = w.1 c i) ∧ (w'.1 0 1).toInt = 0 := by
  have h : ∃ o, cm_C (7 + 1) 47 [.inr (.inr (some 0))] w o ∧ (fun o : cm_O => ∃ x w', o = (some (.inl x), w') ∧ sv_w sg w' ∧ jCl w' ∧ jR 106 w' ∧ (∀ c i, c ≠ 0 → ¬ (2 ≤ c ∧ c ≤ 39) → c ≠ 47 → ¬ (c = 106 ∧ i ≤ 1) → c ≠ 1002 → c ≠ 1001 → w'.1 c i = w.1 c i) ∧ (w'.1 0 1).toInt = 0) o := by
    refine wk_entry (by rw [xm_6c137978]; exact Nat.le_of_ble_eq_true rfl) ?_
    rw [show cm_ent 47 [.inr (.inr (some 0))] = [some (.inr (.inr (some 0))), none] from by unfold cm_ent; rw [xm_6c137978]; rfl]
    refine wk_aload_n xd_8c1af98e rfl ?_
    refine wk_sipush xd_e235e0e1 ?_
    obtain ⟨wA, hCA, hGA, hFA, hA0⟩ := jot_900 (w := w) (show ((Int16.ofInt 900).toInt32).toInt = 900 from by decide) hG
    refine wk_call (kd := 0) (i := 117) xd_2fe7da06 rfl (wk_cal (as := [.inr (.inr (some 0)), .inl ((Int16.ofInt 900).toInt32)]) (t := []) xl_14c10ebc rfl xn_e58bdcce xc_824ae56d rfl rfl xv_a03cc3f8 rfl) (cm_C_mono (by decide) hCA) ?_
    refine wk_aload_n xd_faa36120 rfl ?_
    refine wk_getR xf_9566c2f6 xd_ccc8bc8f ?_
    obtain ⟨xB, wB, hCB, hGB, hFB, hB0, hB01⟩ := jra_ok0 (w := wA) hGA
    refine wk_call (kd := 0) (i := 120) xd_709aa264 rfl (wk_cal (as := [.inr (.inr (some 32))]) (t := []) xl_76a42e7c rfl xn_61954ca6 xc_693ad5e4 rfl rfl xv_3f82693f rfl) (cm_C_mono (by decide) hCB) ?_
    refine wk_istore_n xd_74f03c1b (by rw [xm_6c137978]; rfl) rfl ?_
    refine wk_aload_n xd_19cb22d2 rfl ?_
    refine wk_aload_n xd_6f2e1bef rfl ?_
    refine wk_getR xf_a47ed913 xd_b832b36a ?_
    refine wk_getI xf_41ac18fa xd_43a83c9e ?_
    refine wk_putI xf_6a7b2ed5 (fun ci => wk_fitI ci) xd_a9e3f212 ?_
    have hG1_ : sv_w sg (cm_u1 wB 0 3 (wB.1 2 11)) := sv_w_u1 hGB (by rw [xg_2addefec]; exact sv_in_top _)
    refine wk_iload_n xd_5053481a rfl ?_
    refine wk_iconst xd_c6d68e8e ?_
    refine wk_icmp xd_6e9dfa01 (t := 41) rfl (fun h28_1 => ?_) (fun h28_1 => ?_)
    · have h28_1 := aw_ne_t (a := ((xB).toInt : Int)) (b := ((-1) : Int)) rfl (show ((Int32.ofInt (-1))).toInt = (-1) from by decide) h28_1
      refine wk_aload_n xd_f1b47839 rfl ?_
      refine wk_getR xf_9a45eb64 xd_5589efc9 ?_
      refine wk_aload_n xd_f1e8d9aa rfl ?_
      refine wk_getR xf_d92a5389 xd_6bc44833 ?_
      obtain ⟨wD, hCD, hGD, hFD, hD4, hD8⟩ := jcv_4_18 (w := (cm_u1 wB 0 3 (wB.1 2 11))) hG1_
      refine wk_call (kd := 0) (i := 131) xd_71c90179 rfl (wk_cal (as := [.inr (.inr (some 4)), .inr (.inr (some 18))]) (t := []) xl_62be7d0c rfl xn_000cd9ad xc_6360c095 rfl rfl xv_1cbefe77 rfl) (cm_C_mono (by decide) hCD) ?_
      refine wk_aload_n xd_06742423 rfl ?_
      refine wk_getR xf_35556dee xd_86e6409d ?_
      obtain ⟨wE, hCE, hGE, hFE, hE⟩ := jbe_ok (w := wD) hGD
      refine wk_call (kd := 0) (i := 134) xd_177b571c rfl (wk_cal (as := [.inr (.inr (some 33))]) (t := []) xl_18aa0aa3 rfl xn_9dd39c02 xc_4d179c08 rfl rfl xv_00faf401 rfl) (cm_C_mono (by decide) hCE) ?_
      refine wk_aload_n xd_70285e38 rfl ?_
      refine wk_getR xf_079f417e xd_8ec42dec ?_
      obtain ⟨wS, hCS, hGS, hFS, hS1, hS0⟩ := jfg_106 (w := wE) hGE
      refine wk_call (kd := 0) (i := 137) xd_acbc6ee6 rfl (wk_cal (as := [.inr (.inr (some 106))]) (t := []) xl_b06f42f3 rfl xn_e4af93b7 xc_cac14729 rfl rfl xv_92608cb1 rfl) (cm_C_mono (by decide) hCS) ?_
      refine wk_aload_n xd_5e362c98 rfl ?_
      refine wk_getR xf_c62d31ee xd_4450343b ?_
      obtain ⟨wH, hCH, hGH, hFH, hH⟩ := jfh (w := wS) hGS
      refine wk_call (kd := 0) (i := 140) xd_e16bbe97 rfl (wk_cal (as := [.inr (.inr (some 47))]) (t := []) xl_6391a4ea rfl xn_aadb6e69 xc_b9d9740a rfl rfl xv_919b42ff rfl) (cm_C_mono (by decide) hCH) ?_
      refine wk_iload_n xd_235ff825 rfl ?_
      have hL0 := hB0.resolve_left (by omega)
      have hcl : jCl wH := by
        obtain ⟨h1, h2, h3, h4⟩ := hc
        refine ⟨fun f hf hv => ?_, fun j hj => absurd hj (by rw [hH]; exact Nat.not_lt_zero j), jL_eq (w := w) (by rw [hFH 131 4 (by omega), hFS 131 4 (by omega), hFE 131 4 (by omega), hFD 131 4 (by omega), hs_u1_ne (by omega), hFB 131 4 (by omega) (by omega) (by omega) (by omega), hFA 131 4 (by omega) (by omega)]) (fun f _ => by rw [hFH 149 f (by omega), hFS 149 f (by omega), hFE 149 f (by omega), hFD 149 f (by omega), hs_u1_ne (by omega), hFB 149 f (by omega) (by omega) (by omega) (by omega), hFA 149 f (by omega) (by omega)]) h3, jL_eq (w := w) (by rw [hFH 158 4 (by omega), hFS 158 4 (by omega), hFE 158 4 (by omega), hFD 158 4 (by omega), hs_u1_ne (by omega), hFB 158 4 (by omega) (by omega) (by omega) (by omega), hFA 158 4 (by omega) (by omega)]) (fun f _ => by rw [hFH 176 f (by omega), hFS 176 f (by omega), hFE 176 f (by omega), hFD 176 f (by omega), hs_u1_ne (by omega), hFB 176 f (by omega) (by omega) (by omega) (by omega), hFA 176 f (by omega) (by omega)]) h4⟩
        rw [hFH 37 f (by omega), hFS 37 f (by omega), hE f hf, hD8 f hf]
        rw [hFH 4 4 (by omega), hFS 4 4 (by omega), hFE 4 4 (by omega), hD4] at hv
        exact hL0.2 f hf hv
      refine wk_ireturn xd_7347c989 xr_63b5dc3e rfl ⟨_, _, rfl, hGH, hcl, fun i hi h1 => absurd h1 (by rw [hFH 106 1 (by omega), hS1]; omega), fun c i c1 c2 c3 c4 c5 c6 => by rw [hFH c i (by omega), hFS c i (by omega), hFE c i (by omega), hFD c i (by omega), hs_u1_ne (by omega), hFB c i (by omega) (by omega) (by omega) (by omega), hFA c i (by omega) (by omega)], ?_⟩
      rw [hFH 0 1 (by omega), hFS 0 1 (by omega), hFE 0 1 (by omega), hFD 0 1 (by omega)]
      show (wB.1 0 1).toInt = 0
      rw [hB01]
      exact hA0
    · have h28_1 := aw_ne_f (a := ((xB).toInt : Int)) (b := ((-1) : Int)) rfl (show ((Int32.ofInt (-1))).toInt = (-1) from by decide) h28_1
      refine wk_iconst xd_4a1044bf ?_
      refine wk_aload_n xd_b6497673 rfl ?_
      refine wk_getR xf_a47ed913 xd_56c5b2fe ?_
      refine wk_getI xf_ef6e0a1d xd_d70a176f ?_
      refine wk_isub xd_5b3e8d0d ?_
      refine wk_ireturn xd_58c66072 xr_63b5dc3e rfl ⟨_, _, rfl, hG1_, jCl_fr (fun k i hs => by unfold jSup at hs; rw [hs_u1_ne (by omega), hFB k i (by omega) (by omega) (by omega) (by omega), hFA k i (by omega) (by omega)]) hc, jR_eq (w := w) (s := 106) (by rw [hs_u1_ne (by omega), hFB 106 1 (by omega) (by omega) (by omega) (by omega), hFA 106 1 (by omega) (by omega)]) (fun i _ => (by rw [hs_u1_ne (by omega), hFB _ i (by omega) (by omega) (by omega) (by omega), hFA _ i (by omega) (by omega)])) (fun i _ => (by rw [hs_u1_ne (by omega), hFB _ i (by omega) (by omega) (by omega) (by omega), hFA _ i (by omega) (by omega)])) hR1, fun c i c1 c2 c3 c4 c5 c6 => by rw [hs_u1_ne (by omega), hFB c i (by omega) (by omega) (by omega) (by omega), hFA c i (by omega) (by omega)], ?_⟩
      show (wB.1 0 1).toInt = 0
      rw [hB01]
      exact hA0
  obtain ⟨o, hC, x, w', rfl, a⟩ := h
  exact ⟨x, w', hC, a⟩

/-! ## by hand: image and restore of the reference (wip/p2/gen9a.py) -/
noncomputable def aw_lar (n len : Nat) : Bool := match cm_sh n with
  | some c => Nat.beq c.1 51 && (Nat.beq c.2.1 len && c.2.2.isEmpty)
  | none => false
section AW3
variable {C : Nat → List cm_V → cm_W → cm_O → Prop} {y pc : Nat} {lv : cm_L} {st : List cm_V} {w : cm_W} {Q : cm_O → Prop}
theorem aw_code1 {c : Nat × Nat × List Nat} {i : Nat} (h1 : Nat.beq c.1 51 = true) (h2 : c.2.2.isEmpty = true) : cm_code c i = 1 := by
  unfold cm_code
  obtain ⟨a, b, l⟩ := c
  cases l with
  | nil =>
    show (match Nat.beq a 51 with
      | true => 1
      | false => 0) = 1
    rw [h1]
  | cons x t => cases h2
theorem aw_laload {n len i : Nat} {x : Int32} {e : Int} (hg : aw_lar n len = true) (hx : x.toInt = e) (he : e = (i : Int)) (hl : i < len) (hd : decode (ia_code y) pc = .ok (.laload, 1)) (k : cm_X C y (pc + 1) lv (.inr (.inl (w.2 n i)) :: st) w Q) : cm_X C y pc lv (.inl x :: .inr (.inr (some n)) :: st) w Q := by
  have e1 : x.toInt.toNat = i := by rw [hx, he]; exact Int.toNat_natCast i
  unfold aw_lar at hg
  split at hg
  · rename_i c hc
    simp only [Bool.and_eq_true] at hg
    obtain ⟨g1, g2, g3⟩ := hg
    have e2 := ia_beq g2
    refine cm_X_do (q := (pc + 1, lv, .inr (.inl (w.2 n i)) :: st, w)) hd ?_ k
    show cm_al 51 pc lv (.inl x :: .inr (.inr (some n)) :: st) w = _
    unfold cm_al
    show (match cm_sh n with
      | some c => ia_if (Nat.beq c.1 51 && cm_in x c.2.1) (cm_nx (Nat.add pc 1) lv (cm_v w n x.toInt.toNat (cm_code c x.toInt.toNat) :: st) w)
      | none => none) = _
    rw [hc]
    refine cm_ifk (by rw [g1, e2, wk_in (by omega) (by omega)]; rfl) ?_
    rw [aw_code1 g1 g3, e1]
    rfl
  · cases hg
theorem aw_lastore {n len i : Nat} {x : Int32} {z : Int64} {e : Int} (hg : aw_lar n len = true) (hx : x.toInt = e) (he : e = (i : Int)) (hl : i < len) (hd : decode (ia_code y) pc = .ok (.lastore, 1)) (k : cm_X C y (pc + 1) lv st (cm_u2 w n i z) Q) : cm_X C y pc lv (.inr (.inl z) :: .inl x :: .inr (.inr (some n)) :: st) w Q := by
  have e1 : x.toInt.toNat = i := by rw [hx, he]; exact Int.toNat_natCast i
  unfold aw_lar at hg
  split at hg
  · rename_i c hc
    simp only [Bool.and_eq_true] at hg
    obtain ⟨g1, g2, g3⟩ := hg
    have e2 := ia_beq g2
    refine cm_X_do (q := (pc + 1, lv, st, cm_u2 w n i z)) hd ?_ k
    show cm_asl pc lv (.inr (.inl z) :: .inl x :: .inr (.inr (some n)) :: st) w = _
    unfold cm_asl
    show (match cm_sh n with
      | some c => ia_if (Nat.beq c.1 51 && (cm_in x c.2.1 && Nat.beq (cm_code c x.toInt.toNat) 1)) (cm_nx (Nat.add pc 1) lv st (cm_u2 w n x.toInt.toNat z))
      | none => none) = _
    rw [hc]
    refine cm_ifk (by rw [g1, e2, wk_in (by omega) (by omega), aw_code1 g1 g3]; rfl) ?_
    rw [e1]
    rfl
  · cases hg
end AW3
theorem aw_u2G {G : sv_GT} {w : cm_W} {n i : Nat} {z : Int64} (h : sv_w G w) : sv_w G (cm_u2 w n i z) := h
theorem aw_inc {a b : sv_P} {x : Int32} (h : sv_incl a b = true) (hx : sv_in a x) : sv_in b x := by
  unfold sv_incl at h
  rw [Bool.and_eq_true] at h
  have h1 := ia_ble h.1
  have h2 := ia_ble h.2
  exact ⟨Nat.le_trans h1 hx.1, Nat.le_trans hx.2 h2⟩
/-- n slots from a on of the cell d are those from b on of s; nothing else is changed -/
def hCpy (d a s b n : Nat) (w1 w : cm_W) (i : Nat) : Prop := (∀ j, j < i → w.1 d (a + j) = w1.1 s (b + j)) ∧ ∀ k j, ¬ (k = d ∧ a ≤ j ∧ j < a + n) → w.1 k j = w1.1 k j
def hSame (w1 w : cm_W) (_i : Nat) : Prop := ∀ k j, w.1 k j = w1.1 k j
/-- an image of the reference: its sentence, its span -/
def hPk (w : cm_W) (a k : Nat) : Prop := (∃ c : Nat, (w.1 201 (a + 120)).toInt = (c : Int) ∧ hPf c (fun j => w.1 201 (a + (121 + j)))) ∧ ((w.1 203 k).toInt ≠ 0 → 1 ≤ (w.1 201 (a + 4)).toInt)
theorem hPk_fr {w w' : cm_W} {a k : Nat} (h1 : ∀ j, j < 301 → w'.1 201 (a + j) = w.1 201 (a + j)) (h2 : w'.1 203 k = w.1 203 k) (h : hPk w a k) : hPk w' a k := by
  obtain ⟨⟨c, hc, hf⟩, hs⟩ := h
  exact ⟨⟨c, by rw [h1 120 (by omega)]; exact hc, hPf_eq (fun j hj => (h1 (121 + j) (by omega)).symm) hf⟩, fun z => by rw [h1 4 (by omega)]; exact hs (by rw [← h2]; exact z)⟩
set_option maxRecDepth 100000 in
theorem xi_0a0fa39e : ∀ i, i < 301 → sv_incl (sv_g sg 186 i) (sv_g sg 201 i) = true := by decide +kernel
set_option maxRecDepth 100000 in
theorem xd_79ea442e : decode (ia_code 112) 18 = .ok (.iload_n 2, 1) := fdd_d (by decide +kernel)
set_option maxRecDepth 100000 in
theorem xd_d3977a77 : decode (ia_code 112) 19 = .ok (.sipush 301, 3) := fdd_d (by decide +kernel)
set_option maxRecDepth 100000 in
theorem xd_697c47a5 : decode (ia_code 112) 22 = .ok (.if_icmp .ge 27, 3) := fdd_d (by decide +kernel)
set_option maxRecDepth 100000 in
theorem xd_9aa1656a : decode (ia_code 112) 25 = .ok (.aload_n 0, 1) := fdd_d (by decide +kernel)
set_option maxRecDepth 100000 in
theorem xd_7c429694 : decode (ia_code 112) 26 = .ok (.getfield 87, 3) := fdd_d (by decide +kernel)
set_option maxRecDepth 100000 in
theorem xf_4177b957 : wk_gf 112 87 184 45 (201 + 3) = true := by decide +kernel
set_option maxRecDepth 100000 in
theorem xd_e67acc24 : decode (ia_code 112) 29 = .ok (.sipush 301, 3) := fdd_d (by decide +kernel)
set_option maxRecDepth 100000 in
theorem xd_0a5e623e : decode (ia_code 112) 32 = .ok (.iload_n 1, 1) := fdd_d (by decide +kernel)
set_option maxRecDepth 100000 in
theorem xd_f36a3ea3 : decode (ia_code 112) 33 = .ok (.imul, 1) := fdd_d (by decide +kernel)
set_option maxRecDepth 100000 in
theorem xd_a0346a94 : decode (ia_code 112) 34 = .ok (.iload_n 2, 1) := fdd_d (by decide +kernel)
set_option maxRecDepth 100000 in
theorem xd_c24c72ad : decode (ia_code 112) 35 = .ok (.iadd, 1) := fdd_d (by decide +kernel)
set_option maxRecDepth 100000 in
theorem xd_6d613970 : decode (ia_code 112) 36 = .ok (.aload_n 0, 1) := fdd_d (by decide +kernel)
set_option maxRecDepth 100000 in
theorem xd_a193f60e : decode (ia_code 112) 37 = .ok (.getfield 33, 3) := fdd_d (by decide +kernel)
set_option maxRecDepth 100000 in
theorem xf_4d4d1b3e : wk_gf 112 33 184 6 (186 + 3) = true := by decide +kernel
set_option maxRecDepth 100000 in
theorem xd_9170fc70 : decode (ia_code 112) 40 = .ok (.iload_n 2, 1) := fdd_d (by decide +kernel)
set_option maxRecDepth 100000 in
theorem xd_256bec61 : decode (ia_code 112) 41 = .ok (.iaload, 1) := fdd_d (by decide +kernel)
set_option maxRecDepth 100000 in
theorem xd_86ec21b8 : decode (ia_code 112) 42 = .ok (.iastore, 1) := fdd_d (by decide +kernel)
set_option maxRecDepth 100000 in
theorem xf_e2f87daf : wk_ar 201 50 602 = true := by decide +kernel
set_option maxRecDepth 100000 in
theorem xd_76dae1eb : decode (ia_code 112) 43 = .ok (.iinc 2 1, 3) := fdd_d (by decide +kernel)
set_option maxRecDepth 100000 in
theorem xm_6358a306 : ia_maxL 112 = 3 := by decide +kernel
set_option maxRecDepth 100000 in
theorem xd_f3101ed6 : decode (ia_code 112) 46 = .ok (.goto (-28), 3) := fdd_d (by decide +kernel)
set_option maxRecDepth 100000 in
theorem xd_8b267383 : decode (ia_code 112) 51 = .ok (.iload_n 2, 1) := fdd_d (by decide +kernel)
set_option maxRecDepth 100000 in
theorem xd_d458cc57 : decode (ia_code 112) 52 = .ok (.bipush 16, 2) := fdd_d (by decide +kernel)
set_option maxRecDepth 100000 in
theorem xd_a3c669e6 : decode (ia_code 112) 54 = .ok (.if_icmp .ge 26, 3) := fdd_d (by decide +kernel)
set_option maxRecDepth 100000 in
theorem xd_462f81f4 : decode (ia_code 112) 57 = .ok (.aload_n 0, 1) := fdd_d (by decide +kernel)
set_option maxRecDepth 100000 in
theorem xd_9a2d1d16 : decode (ia_code 112) 58 = .ok (.getfield 90, 3) := fdd_d (by decide +kernel)
set_option maxRecDepth 100000 in
theorem xf_3f7652c4 : wk_gf 112 90 184 46 (202 + 3) = true := by decide +kernel
set_option maxRecDepth 100000 in
theorem xd_faa35c42 : decode (ia_code 112) 61 = .ok (.bipush 16, 2) := fdd_d (by decide +kernel)
set_option maxRecDepth 100000 in
theorem xd_790e7392 : decode (ia_code 112) 63 = .ok (.iload_n 1, 1) := fdd_d (by decide +kernel)
set_option maxRecDepth 100000 in
theorem xd_2cceb97d : decode (ia_code 112) 64 = .ok (.imul, 1) := fdd_d (by decide +kernel)
set_option maxRecDepth 100000 in
theorem xd_d3647b38 : decode (ia_code 112) 65 = .ok (.iload_n 2, 1) := fdd_d (by decide +kernel)
set_option maxRecDepth 100000 in
theorem xd_16402275 : decode (ia_code 112) 66 = .ok (.iadd, 1) := fdd_d (by decide +kernel)
set_option maxRecDepth 100000 in
theorem xd_1e3128dc : decode (ia_code 112) 67 = .ok (.aload_n 0, 1) := fdd_d (by decide +kernel)
set_option maxRecDepth 100000 in
theorem xd_934499e0 : decode (ia_code 112) 68 = .ok (.getfield 43, 3) := fdd_d (by decide +kernel)
set_option maxRecDepth 100000 in
theorem xf_521296cb : wk_gf 112 43 184 9 (189 + 3) = true := by decide +kernel
set_option maxRecDepth 100000 in
theorem xd_521dbf8c : decode (ia_code 112) 71 = .ok (.iload_n 2, 1) := fdd_d (by decide +kernel)
set_option maxRecDepth 100000 in
theorem xd_17f5e80c : decode (ia_code 112) 72 = .ok (.laload, 1) := fdd_d (by decide +kernel)
set_option maxRecDepth 100000 in
theorem xf_69b9f963 : aw_lar 189 32 = true := by decide +kernel
set_option maxRecDepth 100000 in
theorem xd_5119a324 : decode (ia_code 112) 73 = .ok (.lastore, 1) := fdd_d (by decide +kernel)
set_option maxRecDepth 100000 in
theorem xf_f15e6417 : aw_lar 202 32 = true := by decide +kernel
set_option maxRecDepth 100000 in
theorem xd_65e6e696 : decode (ia_code 112) 74 = .ok (.iinc 2 1, 3) := fdd_d (by decide +kernel)
set_option maxRecDepth 100000 in
theorem xd_7dd2acd2 : decode (ia_code 112) 77 = .ok (.goto (-26), 3) := fdd_d (by decide +kernel)
set_option maxRecDepth 100000 in
theorem xi_d37ee6a0 : ∀ i, i < 301 → sv_incl (sv_g sg 186 i) (sv_g sg 201 (301 + i)) = true := by decide +kernel
set_option maxRecDepth 100000 in
theorem xj_a2fd07b6 : ∀ i, i < 301 → i ≠ 4 → sv_incl (sv_g sg 201 i) (sv_g sg 186 i) = true := by decide +kernel
set_option maxRecDepth 100000 in
theorem xd_4b052cbc : decode (ia_code 138) 27 = .ok (.iload_n 2, 1) := fdd_d (by decide +kernel)
set_option maxRecDepth 100000 in
theorem xd_af940999 : decode (ia_code 138) 28 = .ok (.sipush 301, 3) := fdd_d (by decide +kernel)
set_option maxRecDepth 100000 in
theorem xd_be918101 : decode (ia_code 138) 31 = .ok (.if_icmp .ge 27, 3) := fdd_d (by decide +kernel)
set_option maxRecDepth 100000 in
theorem xd_9c06f0ab : decode (ia_code 138) 34 = .ok (.aload_n 0, 1) := fdd_d (by decide +kernel)
set_option maxRecDepth 100000 in
theorem xd_21e761a9 : decode (ia_code 138) 35 = .ok (.getfield 33, 3) := fdd_d (by decide +kernel)
set_option maxRecDepth 100000 in
theorem xf_51bc010c : wk_gf 138 33 184 6 (186 + 3) = true := by decide +kernel
set_option maxRecDepth 100000 in
theorem xd_bc209213 : decode (ia_code 138) 38 = .ok (.iload_n 2, 1) := fdd_d (by decide +kernel)
set_option maxRecDepth 100000 in
theorem xd_0790f8ca : decode (ia_code 138) 39 = .ok (.aload_n 0, 1) := fdd_d (by decide +kernel)
set_option maxRecDepth 100000 in
theorem xd_38559679 : decode (ia_code 138) 40 = .ok (.getfield 87, 3) := fdd_d (by decide +kernel)
set_option maxRecDepth 100000 in
theorem xf_89bc19cd : wk_gf 138 87 184 45 (201 + 3) = true := by decide +kernel
set_option maxRecDepth 100000 in
theorem xd_4e5cf0a9 : decode (ia_code 138) 43 = .ok (.sipush 301, 3) := fdd_d (by decide +kernel)
set_option maxRecDepth 100000 in
theorem xd_27ebeee8 : decode (ia_code 138) 46 = .ok (.iload_n 1, 1) := fdd_d (by decide +kernel)
set_option maxRecDepth 100000 in
theorem xd_c8795e87 : decode (ia_code 138) 47 = .ok (.imul, 1) := fdd_d (by decide +kernel)
set_option maxRecDepth 100000 in
theorem xd_8d38a564 : decode (ia_code 138) 48 = .ok (.iload_n 2, 1) := fdd_d (by decide +kernel)
set_option maxRecDepth 100000 in
theorem xd_ee0ebc85 : decode (ia_code 138) 49 = .ok (.iadd, 1) := fdd_d (by decide +kernel)
set_option maxRecDepth 100000 in
theorem xd_44868255 : decode (ia_code 138) 50 = .ok (.iaload, 1) := fdd_d (by decide +kernel)
set_option maxRecDepth 100000 in
theorem xd_43fd391e : decode (ia_code 138) 51 = .ok (.iastore, 1) := fdd_d (by decide +kernel)
set_option maxRecDepth 100000 in
theorem xg_a0777398 : sv_g sg 186 4 = (2147483649, 2147483668) := by decide +kernel
set_option maxRecDepth 100000 in
theorem xg_367a75e1 : sv_g sg 201 4 = (2147483648, 2147483668) := by decide +kernel
set_option maxRecDepth 100000 in
theorem xd_67fa3fae : decode (ia_code 138) 52 = .ok (.iinc 2 1, 3) := fdd_d (by decide +kernel)
set_option maxRecDepth 100000 in
theorem xm_64201aac : ia_maxL 138 = 3 := by decide +kernel
set_option maxRecDepth 100000 in
theorem xd_c64e876a : decode (ia_code 138) 55 = .ok (.goto (-28), 3) := fdd_d (by decide +kernel)
set_option maxRecDepth 100000 in
theorem xd_54ba2a4d : decode (ia_code 138) 60 = .ok (.iload_n 2, 1) := fdd_d (by decide +kernel)
set_option maxRecDepth 100000 in
theorem xd_e6524670 : decode (ia_code 138) 61 = .ok (.bipush 16, 2) := fdd_d (by decide +kernel)
set_option maxRecDepth 100000 in
theorem xd_b4f3e97e : decode (ia_code 138) 63 = .ok (.if_icmp .ge 26, 3) := fdd_d (by decide +kernel)
set_option maxRecDepth 100000 in
theorem xd_99b3d83a : decode (ia_code 138) 66 = .ok (.aload_n 0, 1) := fdd_d (by decide +kernel)
set_option maxRecDepth 100000 in
theorem xd_610d4705 : decode (ia_code 138) 67 = .ok (.getfield 43, 3) := fdd_d (by decide +kernel)
set_option maxRecDepth 100000 in
theorem xf_4ee38cf9 : wk_gf 138 43 184 9 (189 + 3) = true := by decide +kernel
set_option maxRecDepth 100000 in
theorem xd_d59f4f6a : decode (ia_code 138) 70 = .ok (.iload_n 2, 1) := fdd_d (by decide +kernel)
set_option maxRecDepth 100000 in
theorem xd_6e2f25b3 : decode (ia_code 138) 71 = .ok (.aload_n 0, 1) := fdd_d (by decide +kernel)
set_option maxRecDepth 100000 in
theorem xd_23185269 : decode (ia_code 138) 72 = .ok (.getfield 90, 3) := fdd_d (by decide +kernel)
set_option maxRecDepth 100000 in
theorem xf_f7bdf25e : wk_gf 138 90 184 46 (202 + 3) = true := by decide +kernel
set_option maxRecDepth 100000 in
theorem xd_672b82c4 : decode (ia_code 138) 75 = .ok (.bipush 16, 2) := fdd_d (by decide +kernel)
set_option maxRecDepth 100000 in
theorem xd_e486ad14 : decode (ia_code 138) 77 = .ok (.iload_n 1, 1) := fdd_d (by decide +kernel)
set_option maxRecDepth 100000 in
theorem xd_9d507c46 : decode (ia_code 138) 78 = .ok (.imul, 1) := fdd_d (by decide +kernel)
set_option maxRecDepth 100000 in
theorem xd_4e55e698 : decode (ia_code 138) 79 = .ok (.iload_n 2, 1) := fdd_d (by decide +kernel)
set_option maxRecDepth 100000 in
theorem xd_f6c4b40f : decode (ia_code 138) 80 = .ok (.iadd, 1) := fdd_d (by decide +kernel)
set_option maxRecDepth 100000 in
theorem xd_6f19fc04 : decode (ia_code 138) 81 = .ok (.laload, 1) := fdd_d (by decide +kernel)
set_option maxRecDepth 100000 in
theorem xd_bb7ec67f : decode (ia_code 138) 82 = .ok (.lastore, 1) := fdd_d (by decide +kernel)
set_option maxRecDepth 100000 in
theorem xd_eb44530f : decode (ia_code 138) 83 = .ok (.iinc 2 1, 3) := fdd_d (by decide +kernel)
set_option maxRecDepth 100000 in
theorem xd_d6670670 : decode (ia_code 138) 86 = .ok (.goto (-26), 3) := fdd_d (by decide +kernel)
set_option maxRecDepth 100000 in
theorem xj_f76cf1d3 : ∀ i, i < 301 → i ≠ 4 → sv_incl (sv_g sg 201 (301 + i)) (sv_g sg 186 i) = true := by decide +kernel
set_option maxRecDepth 100000 in
theorem xg_85ca1db5 : sv_g sg 201 305 = (2147483648, 2147483668) := by decide +kernel
set_option maxRecDepth 100000 in
theorem xd_a97a76d5 : decode (ia_code 112) 16 = .ok (.iconst 0, 1) := fdd_d (by decide +kernel)
set_option maxRecDepth 100000 in
theorem xd_9b9a0849 : decode (ia_code 112) 17 = .ok (.istore_n 2, 1) := fdd_d (by decide +kernel)
set_option maxRecDepth 100000 in
theorem xd_eecf25d2 : decode (ia_code 112) 49 = .ok (.iconst 0, 1) := fdd_d (by decide +kernel)
set_option maxRecDepth 100000 in
theorem xd_513f75c5 : decode (ia_code 112) 50 = .ok (.istore_n 2, 1) := fdd_d (by decide +kernel)
set_option maxRecDepth 100000 in
theorem xd_0ab8de9c : decode (ia_code 112) 80 = .ok (.aload_n 0, 1) := fdd_d (by decide +kernel)
set_option maxRecDepth 100000 in
theorem xd_ccad798a : decode (ia_code 112) 81 = .ok (.getfield 93, 3) := fdd_d (by decide +kernel)
set_option maxRecDepth 100000 in
theorem xf_385f8bf3 : wk_gf 112 93 184 47 (203 + 3) = true := by decide +kernel
set_option maxRecDepth 100000 in
theorem xd_6d8785d2 : decode (ia_code 112) 84 = .ok (.iload_n 1, 1) := fdd_d (by decide +kernel)
set_option maxRecDepth 100000 in
theorem xd_36a85bd7 : decode (ia_code 112) 85 = .ok (.iconst 1, 1) := fdd_d (by decide +kernel)
set_option maxRecDepth 100000 in
theorem xd_52d61747 : decode (ia_code 112) 86 = .ok (.bastore, 1) := fdd_d (by decide +kernel)
set_option maxRecDepth 100000 in
theorem xf_3716dfb6 : wk_ar 203 53 2 = true := by decide +kernel
set_option maxRecDepth 100000 in
theorem xg_52f3a2aa : sv_g sg 203 0 = (2147483648, 2147483649) := by decide +kernel
set_option maxRecDepth 100000 in
theorem xd_18f89257 : decode (ia_code 112) 87 = .ok (.iconst 1, 1) := fdd_d (by decide +kernel)
set_option maxRecDepth 100000 in
theorem xd_05056f32 : decode (ia_code 112) 88 = .ok (.ireturn, 1) := fdd_d (by decide +kernel)
set_option maxRecDepth 100000 in
theorem xr_719b2703 : ia_ret 112 = some .boolean := by decide +kernel
set_option maxRecDepth 100000 in
theorem xg_53465fb7 : sv_g sg 203 1 = (2147483648, 2147483649) := by decide +kernel
set_option maxRecDepth 100000 in
theorem xd_7b9cb2f9 : decode (ia_code 138) 25 = .ok (.iconst 0, 1) := fdd_d (by decide +kernel)
set_option maxRecDepth 100000 in
theorem xd_e7997ba7 : decode (ia_code 138) 26 = .ok (.istore_n 2, 1) := fdd_d (by decide +kernel)
set_option maxRecDepth 100000 in
theorem xd_ffeffb97 : decode (ia_code 138) 58 = .ok (.iconst 0, 1) := fdd_d (by decide +kernel)
set_option maxRecDepth 100000 in
theorem xd_cadc8cc6 : decode (ia_code 138) 59 = .ok (.istore_n 2, 1) := fdd_d (by decide +kernel)
set_option maxRecDepth 100000 in
theorem xd_8d836d5c : decode (ia_code 138) 89 = .ok (.aload_n 0, 1) := fdd_d (by decide +kernel)
set_option maxRecDepth 100000 in
theorem xd_46493f22 : decode (ia_code 138) 90 = .ok (.iconst 0, 1) := fdd_d (by decide +kernel)
set_option maxRecDepth 100000 in
theorem xd_5a501bbb : decode (ia_code 138) 91 = .ok (.putfield 244, 3) := fdd_d (by decide +kernel)
set_option maxRecDepth 100000 in
theorem xf_b31930b5 : wk_pf 138 244 184 23 0 = true := by decide +kernel
set_option maxRecDepth 100000 in
theorem xg_14fa25fd : sv_g sg 184 23 = (2147483648, 2147483656) := by decide +kernel
set_option maxRecDepth 100000 in
theorem xd_27888592 : decode (ia_code 138) 94 = .ok (.iconst 1, 1) := fdd_d (by decide +kernel)
set_option maxRecDepth 100000 in
theorem xd_13db7b24 : decode (ia_code 138) 95 = .ok (.ireturn, 1) := fdd_d (by decide +kernel)
set_option maxRecDepth 100000 in
theorem xr_466393d9 : ia_ret 138 = some .boolean := by decide +kernel
set_option maxRecDepth 100000 in
theorem xd_c1fd17ef : decode (ia_code 115) 0 = .ok (.iload_n 0, 1) := fdd_d (by decide +kernel)
set_option maxRecDepth 100000 in
theorem xd_67eed48b : decode (ia_code 115) 1 = .ok (.iload_n 1, 1) := fdd_d (by decide +kernel)
set_option maxRecDepth 100000 in
theorem xd_81a6b6c8 : decode (ia_code 115) 2 = .ok (.if_icmp .lt 12, 3) := fdd_d (by decide +kernel)
set_option maxRecDepth 100000 in
theorem xd_5fe9c473 : decode (ia_code 115) 14 = .ok (.iconst 0, 1) := fdd_d (by decide +kernel)
set_option maxRecDepth 100000 in
theorem xd_cdef5f09 : decode (ia_code 115) 15 = .ok (.ireturn, 1) := fdd_d (by decide +kernel)
set_option maxRecDepth 100000 in
theorem xr_51095b48 : ia_ret 115 = some .boolean := by decide +kernel
set_option maxRecDepth 100000 in
theorem xd_5ad25ca8 : decode (ia_code 115) 5 = .ok (.iload_n 0, 1) := fdd_d (by decide +kernel)
set_option maxRecDepth 100000 in
theorem xd_56f736f5 : decode (ia_code 115) 6 = .ok (.iload_n 2, 1) := fdd_d (by decide +kernel)
set_option maxRecDepth 100000 in
theorem xd_ef7c8d09 : decode (ia_code 115) 7 = .ok (.if_icmp .gt 7, 3) := fdd_d (by decide +kernel)
set_option maxRecDepth 100000 in
theorem xd_3e287ec3 : decode (ia_code 115) 10 = .ok (.iconst 1, 1) := fdd_d (by decide +kernel)
set_option maxRecDepth 100000 in
theorem xd_2e24e90c : decode (ia_code 115) 11 = .ok (.goto 4, 3) := fdd_d (by decide +kernel)
set_option maxRecDepth 100000 in
theorem xm_d1787f16 : ia_maxL 115 = 3 := by decide +kernel
set_option maxRecDepth 100000 in
theorem xd_433dbfa4 : decode (ia_code 112) 0 = .ok (.aload_n 0, 1) := fdd_d (by decide +kernel)
set_option maxRecDepth 100000 in
theorem xd_bb4f9481 : decode (ia_code 112) 1 = .ok (.iconst 0, 1) := fdd_d (by decide +kernel)
set_option maxRecDepth 100000 in
theorem xd_c4d4869e : decode (ia_code 112) 2 = .ok (.putfield 1, 3) := fdd_d (by decide +kernel)
set_option maxRecDepth 100000 in
theorem xf_9221ebe5 : wk_pf 112 1 184 0 0 = true := by decide +kernel
set_option maxRecDepth 100000 in
theorem xd_bf710e3e : decode (ia_code 112) 5 = .ok (.iload_n 1, 1) := fdd_d (by decide +kernel)
set_option maxRecDepth 100000 in
theorem xd_de96aac1 : decode (ia_code 112) 6 = .ok (.iconst 0, 1) := fdd_d (by decide +kernel)
set_option maxRecDepth 100000 in
theorem xd_f4dee7b1 : decode (ia_code 112) 7 = .ok (.iconst 1, 1) := fdd_d (by decide +kernel)
set_option maxRecDepth 100000 in
theorem xl_43f0f29f : ia_pl (ia_cls 112) 182 = some (1, 115, 1, 0, 1687) := by decide +kernel
set_option maxRecDepth 100000 in
theorem xn_adc58d92 : ia_na 115 = 3 := by decide +kernel
set_option maxRecDepth 100000 in
theorem xc_a9508f83 : ia_mc 115 = 0 ∧ ia_ms 115 = 0 := ⟨by decide +kernel, by decide +kernel⟩
set_option maxRecDepth 100000 in
theorem xd_73ebc502 : decode (ia_code 112) 8 = .ok (.invokestatic 182, 3) := fdd_d (by decide +kernel)
set_option maxRecDepth 100000 in
theorem xd_e709d34b : decode (ia_code 112) 11 = .ok (.ifCond .ne 5, 3) := fdd_d (by decide +kernel)
set_option maxRecDepth 100000 in
theorem xd_872abf55 : decode (ia_code 112) 14 = .ok (.iconst 0, 1) := fdd_d (by decide +kernel)
set_option maxRecDepth 100000 in
theorem xd_03bfa3a1 : decode (ia_code 112) 15 = .ok (.ireturn, 1) := fdd_d (by decide +kernel)
set_option maxRecDepth 100000 in
theorem xd_de46eff5 : decode (ia_code 138) 0 = .ok (.aload_n 0, 1) := fdd_d (by decide +kernel)
set_option maxRecDepth 100000 in
theorem xd_12686a04 : decode (ia_code 138) 1 = .ok (.iconst 0, 1) := fdd_d (by decide +kernel)
set_option maxRecDepth 100000 in
theorem xd_d8259cac : decode (ia_code 138) 2 = .ok (.putfield 1, 3) := fdd_d (by decide +kernel)
set_option maxRecDepth 100000 in
theorem xf_f410289b : wk_pf 138 1 184 0 0 = true := by decide +kernel
set_option maxRecDepth 100000 in
theorem xd_220a5e6f : decode (ia_code 138) 5 = .ok (.iload_n 1, 1) := fdd_d (by decide +kernel)
set_option maxRecDepth 100000 in
theorem xd_77b15444 : decode (ia_code 138) 6 = .ok (.iconst 0, 1) := fdd_d (by decide +kernel)
set_option maxRecDepth 100000 in
theorem xd_5df91934 : decode (ia_code 138) 7 = .ok (.iconst 1, 1) := fdd_d (by decide +kernel)
set_option maxRecDepth 100000 in
theorem xl_b1daf6d3 : ia_pl (ia_cls 138) 182 = some (1, 115, 1, 0, 1687) := by decide +kernel
set_option maxRecDepth 100000 in
theorem xd_3befc751 : decode (ia_code 138) 8 = .ok (.invokestatic 182, 3) := fdd_d (by decide +kernel)
set_option maxRecDepth 100000 in
theorem xd_f912eea6 : decode (ia_code 138) 11 = .ok (.ifCond .eq 12, 3) := fdd_d (by decide +kernel)
set_option maxRecDepth 100000 in
theorem xd_096de879 : decode (ia_code 138) 23 = .ok (.iconst 0, 1) := fdd_d (by decide +kernel)
set_option maxRecDepth 100000 in
theorem xd_0c3a73fa : decode (ia_code 138) 24 = .ok (.ireturn, 1) := fdd_d (by decide +kernel)
set_option maxRecDepth 100000 in
theorem xd_453d3ca4 : decode (ia_code 138) 14 = .ok (.aload_n 0, 1) := fdd_d (by decide +kernel)
set_option maxRecDepth 100000 in
theorem xd_953609a0 : decode (ia_code 138) 15 = .ok (.getfield 93, 3) := fdd_d (by decide +kernel)
set_option maxRecDepth 100000 in
theorem xf_f0942b69 : wk_gf 138 93 184 47 (203 + 3) = true := by decide +kernel
set_option maxRecDepth 100000 in
theorem xd_22bb24cc : decode (ia_code 138) 18 = .ok (.iload_n 1, 1) := fdd_d (by decide +kernel)
set_option maxRecDepth 100000 in
theorem xd_562390ed : decode (ia_code 138) 19 = .ok (.baload, 1) := fdd_d (by decide +kernel)
set_option maxRecDepth 100000 in
theorem xd_eef851ac : decode (ia_code 138) 20 = .ok (.ifCond .ne 5, 3) := fdd_d (by decide +kernel)
theorem him0_a (w1 : cm_W) (k : Int32) (hk0 : k.toInt = 0) (Q : cm_O → Prop) (hk : ∀ w z, hCpy 201 0 186 0 301 w1 w (301) → sv_w sg w → cm_X (cm_C 1) 112 49 [some (.inr (.inr (some 184))), some (.inl k), some (.inl z)] [] w Q) : ∀ (n i : Nat) (z : Int32) (w : cm_W), n + i = 301 → z.toInt = (i : Int) → hCpy 201 0 186 0 301 w1 w (i) → sv_w sg w → cm_X (cm_C 1) 112 18 [some (.inr (.inr (some 184))), some (.inl k), some (.inl z)] [] w Q := by
  intro n
  induction n with
  | zero =>
    intro i z w hi hz hP hG
    refine wk_iload_n xd_79ea442e rfl ?_
    refine wk_sipush xd_d3977a77 ?_
    refine wk_icmp xd_697c47a5 (t := 49) rfl (fun h22_0 => ?_) (fun h22_0 => ?_)
    · have h22_0 := aw_ge_t (a := ((i : Int) : Int)) (b := (301 : Int)) hz (show (((Int16.ofInt 301).toInt32)).toInt = 301 from by decide) h22_0
      exact hk w z (by have e : i = 301 := (by omega); subst e; exact hP) hG
    · have h22_0 := aw_ge_f (a := ((i : Int) : Int)) (b := (301 : Int)) hz (show (((Int16.ofInt 301).toInt32)).toInt = 301 from by decide) h22_0
      exfalso
      omega
  | succ n ih =>
    intro i z w hi hz hP hG
    refine wk_iload_n xd_79ea442e rfl ?_
    refine wk_sipush xd_d3977a77 ?_
    refine wk_icmp xd_697c47a5 (t := 49) rfl (fun h22_1 => ?_) (fun h22_1 => ?_)
    · have h22_1 := aw_ge_t (a := ((i : Int) : Int)) (b := (301 : Int)) hz (show (((Int16.ofInt 301).toInt32)).toInt = 301 from by decide) h22_1
      exfalso
      omega
    · have h22_1 := aw_ge_f (a := ((i : Int) : Int)) (b := (301 : Int)) hz (show (((Int16.ofInt 301).toInt32)).toInt = 301 from by decide) h22_1
      refine wk_aload_n xd_9aa1656a rfl ?_
      refine wk_getR xf_4177b957 xd_7c429694 ?_
      refine wk_sipush xd_e67acc24 ?_
      refine wk_iload_n xd_0a5e623e rfl ?_
      refine aw_imul (a := (301 : Int)) (b := (0 : Int)) (e := (0 : Int)) xd_f36a3ea3 (show (((Int16.ofInt 301).toInt32)).toInt = 301 from by decide) hk0 (by omega) (by omega) (by omega) (fun v3_ p3_ => ?_)
      refine wk_iload_n xd_a0346a94 rfl ?_
      refine aw_iadd (a := (0 : Int)) (b := ((i : Int) : Int)) (e := ((i : Int) : Int)) xd_c24c72ad p3_ hz (by omega) (by omega) (by omega) (fun v4_ p4_ => ?_)
      refine wk_aload_n xd_6d613970 rfl ?_
      refine wk_getR xf_4d4d1b3e xd_a193f60e ?_
      refine wk_iload_n xd_9170fc70 rfl ?_
      refine aw_iaload (i := i) xf_31d67ad9 hz (by omega) (by omega) xd_256bec61 ?_
      refine aw_iastore (i := i) xf_e2f87daf p4_ (by omega) (by omega) xd_86ec21b8 ?_
      have hG5_ : sv_w sg (cm_u1 w 201 i (w.1 186 i)) := sv_w_u1 hG (aw_inc (xi_0a0fa39e i (by omega)) (hG 186 i))
      refine aw_iinc (a := ((i : Int) : Int)) (b := (1 : Int)) (e := ((i : Int) + 1 : Int)) xd_76dae1eb (by rw [xm_6358a306]; rfl) rfl rfl hz (show ((Int32.ofInt 1)).toInt = 1 from by decide) (by omega) (by omega) (by omega) (fun v6_ p6_ => ?_)
      refine wk_goto xd_f3101ed6 (t := 18) rfl ?_
      refine ih (i + 1) _ _ (by omega) (by rw [p6_]; omega) ?_ hG5_
      refine ⟨fun j hj => ?_, fun k j hkj => (hs_u1_ne (by omega)).trans (hP.2 k j hkj)⟩
      by_cases e : j = i
      · rw [e, show 0 + i = i from by omega, hs_u1_self]
        exact hP.2 186 i (by omega)
      · rw [hs_u1_ne (by omega)]
        exact hP.1 j (by omega)
theorem him0_b (w1 : cm_W) (k : Int32) (hk0 : k.toInt = 0) (Q : cm_O → Prop) (hk : ∀ w z, hSame w1 w (16) → sv_w sg w → cm_X (cm_C 1) 112 80 [some (.inr (.inr (some 184))), some (.inl k), some (.inl z)] [] w Q) : ∀ (n i : Nat) (z : Int32) (w : cm_W), n + i = 16 → z.toInt = (i : Int) → hSame w1 w (i) → sv_w sg w → cm_X (cm_C 1) 112 51 [some (.inr (.inr (some 184))), some (.inl k), some (.inl z)] [] w Q := by
  intro n
  induction n with
  | zero =>
    intro i z w hi hz hP hG
    refine wk_iload_n xd_8b267383 rfl ?_
    refine wk_bipush xd_d458cc57 ?_
    refine wk_icmp xd_a3c669e6 (t := 80) rfl (fun h54_0 => ?_) (fun h54_0 => ?_)
    · have h54_0 := aw_ge_t (a := ((i : Int) : Int)) (b := (16 : Int)) hz (show (((Int8.ofInt 16).toInt32)).toInt = 16 from by decide) h54_0
      exact hk w z (by have e : i = 16 := (by omega); subst e; exact hP) hG
    · have h54_0 := aw_ge_f (a := ((i : Int) : Int)) (b := (16 : Int)) hz (show (((Int8.ofInt 16).toInt32)).toInt = 16 from by decide) h54_0
      exfalso
      omega
  | succ n ih =>
    intro i z w hi hz hP hG
    refine wk_iload_n xd_8b267383 rfl ?_
    refine wk_bipush xd_d458cc57 ?_
    refine wk_icmp xd_a3c669e6 (t := 80) rfl (fun h54_1 => ?_) (fun h54_1 => ?_)
    · have h54_1 := aw_ge_t (a := ((i : Int) : Int)) (b := (16 : Int)) hz (show (((Int8.ofInt 16).toInt32)).toInt = 16 from by decide) h54_1
      exfalso
      omega
    · have h54_1 := aw_ge_f (a := ((i : Int) : Int)) (b := (16 : Int)) hz (show (((Int8.ofInt 16).toInt32)).toInt = 16 from by decide) h54_1
      refine wk_aload_n xd_462f81f4 rfl ?_
      refine wk_getR xf_3f7652c4 xd_9a2d1d16 ?_
      refine wk_bipush xd_faa35c42 ?_
      refine wk_iload_n xd_790e7392 rfl ?_
      refine aw_imul (a := (16 : Int)) (b := (0 : Int)) (e := (0 : Int)) xd_2cceb97d (show (((Int8.ofInt 16).toInt32)).toInt = 16 from by decide) hk0 (by omega) (by omega) (by omega) (fun v3_ p3_ => ?_)
      refine wk_iload_n xd_d3647b38 rfl ?_
      refine aw_iadd (a := (0 : Int)) (b := ((i : Int) : Int)) (e := ((i : Int) : Int)) xd_16402275 p3_ hz (by omega) (by omega) (by omega) (fun v4_ p4_ => ?_)
      refine wk_aload_n xd_1e3128dc rfl ?_
      refine wk_getR xf_521296cb xd_934499e0 ?_
      refine wk_iload_n xd_521dbf8c rfl ?_
      refine aw_laload (i := i) xf_69b9f963 hz (by omega) (by omega) xd_17f5e80c ?_
      refine aw_lastore (i := i) xf_f15e6417 p4_ (by omega) (by omega) xd_5119a324 ?_
      refine aw_iinc (a := ((i : Int) : Int)) (b := (1 : Int)) (e := ((i : Int) + 1 : Int)) xd_65e6e696 (by rw [xm_6358a306]; rfl) rfl rfl hz (show ((Int32.ofInt 1)).toInt = 1 from by decide) (by omega) (by omega) (by omega) (fun v5_ p5_ => ?_)
      refine wk_goto xd_7dd2acd2 (t := 51) rfl ?_
      refine ih (i + 1) _ _ (by omega) (by rw [p5_]; omega) ?_ (aw_u2G hG)
      exact fun k j => hP k j
theorem him1_a (w1 : cm_W) (k : Int32) (hk0 : k.toInt = 1) (Q : cm_O → Prop) (hk : ∀ w z, hCpy 201 301 186 0 301 w1 w (301) → sv_w sg w → cm_X (cm_C 1) 112 49 [some (.inr (.inr (some 184))), some (.inl k), some (.inl z)] [] w Q) : ∀ (n i : Nat) (z : Int32) (w : cm_W), n + i = 301 → z.toInt = (i : Int) → hCpy 201 301 186 0 301 w1 w (i) → sv_w sg w → cm_X (cm_C 1) 112 18 [some (.inr (.inr (some 184))), some (.inl k), some (.inl z)] [] w Q := by
  intro n
  induction n with
  | zero =>
    intro i z w hi hz hP hG
    refine wk_iload_n xd_79ea442e rfl ?_
    refine wk_sipush xd_d3977a77 ?_
    refine wk_icmp xd_697c47a5 (t := 49) rfl (fun h22_0 => ?_) (fun h22_0 => ?_)
    · have h22_0 := aw_ge_t (a := ((i : Int) : Int)) (b := (301 : Int)) hz (show (((Int16.ofInt 301).toInt32)).toInt = 301 from by decide) h22_0
      exact hk w z (by have e : i = 301 := (by omega); subst e; exact hP) hG
    · have h22_0 := aw_ge_f (a := ((i : Int) : Int)) (b := (301 : Int)) hz (show (((Int16.ofInt 301).toInt32)).toInt = 301 from by decide) h22_0
      exfalso
      omega
  | succ n ih =>
    intro i z w hi hz hP hG
    refine wk_iload_n xd_79ea442e rfl ?_
    refine wk_sipush xd_d3977a77 ?_
    refine wk_icmp xd_697c47a5 (t := 49) rfl (fun h22_1 => ?_) (fun h22_1 => ?_)
    · have h22_1 := aw_ge_t (a := ((i : Int) : Int)) (b := (301 : Int)) hz (show (((Int16.ofInt 301).toInt32)).toInt = 301 from by decide) h22_1
      exfalso
      omega
    · have h22_1 := aw_ge_f (a := ((i : Int) : Int)) (b := (301 : Int)) hz (show (((Int16.ofInt 301).toInt32)).toInt = 301 from by decide) h22_1
      refine wk_aload_n xd_9aa1656a rfl ?_
      refine wk_getR xf_4177b957 xd_7c429694 ?_
      refine wk_sipush xd_e67acc24 ?_
      refine wk_iload_n xd_0a5e623e rfl ?_
      refine aw_imul (a := (301 : Int)) (b := (1 : Int)) (e := (301 : Int)) xd_f36a3ea3 (show (((Int16.ofInt 301).toInt32)).toInt = 301 from by decide) hk0 (by omega) (by omega) (by omega) (fun v3_ p3_ => ?_)
      refine wk_iload_n xd_a0346a94 rfl ?_
      refine aw_iadd (a := (301 : Int)) (b := ((i : Int) : Int)) (e := ((i : Int) + 301 : Int)) xd_c24c72ad p3_ hz (by omega) (by omega) (by omega) (fun v4_ p4_ => ?_)
      refine wk_aload_n xd_6d613970 rfl ?_
      refine wk_getR xf_4d4d1b3e xd_a193f60e ?_
      refine wk_iload_n xd_9170fc70 rfl ?_
      refine aw_iaload (i := i) xf_31d67ad9 hz (by omega) (by omega) xd_256bec61 ?_
      refine aw_iastore (i := (301 + i)) xf_e2f87daf p4_ (by omega) (by omega) xd_86ec21b8 ?_
      have hG5_ : sv_w sg (cm_u1 w 201 (301 + i) (w.1 186 i)) := sv_w_u1 hG (aw_inc (xi_d37ee6a0 i (by omega)) (hG 186 i))
      refine aw_iinc (a := ((i : Int) : Int)) (b := (1 : Int)) (e := ((i : Int) + 1 : Int)) xd_76dae1eb (by rw [xm_6358a306]; rfl) rfl rfl hz (show ((Int32.ofInt 1)).toInt = 1 from by decide) (by omega) (by omega) (by omega) (fun v6_ p6_ => ?_)
      refine wk_goto xd_f3101ed6 (t := 18) rfl ?_
      refine ih (i + 1) _ _ (by omega) (by rw [p6_]; omega) ?_ hG5_
      refine ⟨fun j hj => ?_, fun k j hkj => (hs_u1_ne (by omega)).trans (hP.2 k j hkj)⟩
      by_cases e : j = i
      · rw [e, show 301 + i = (301 + i) from by omega, hs_u1_self, show 0 + i = i from by omega]
        exact hP.2 186 i (by omega)
      · rw [hs_u1_ne (by omega)]
        exact hP.1 j (by omega)
theorem him1_b (w1 : cm_W) (k : Int32) (hk0 : k.toInt = 1) (Q : cm_O → Prop) (hk : ∀ w z, hSame w1 w (16) → sv_w sg w → cm_X (cm_C 1) 112 80 [some (.inr (.inr (some 184))), some (.inl k), some (.inl z)] [] w Q) : ∀ (n i : Nat) (z : Int32) (w : cm_W), n + i = 16 → z.toInt = (i : Int) → hSame w1 w (i) → sv_w sg w → cm_X (cm_C 1) 112 51 [some (.inr (.inr (some 184))), some (.inl k), some (.inl z)] [] w Q := by
  intro n
  induction n with
  | zero =>
    intro i z w hi hz hP hG
    refine wk_iload_n xd_8b267383 rfl ?_
    refine wk_bipush xd_d458cc57 ?_
    refine wk_icmp xd_a3c669e6 (t := 80) rfl (fun h54_0 => ?_) (fun h54_0 => ?_)
    · have h54_0 := aw_ge_t (a := ((i : Int) : Int)) (b := (16 : Int)) hz (show (((Int8.ofInt 16).toInt32)).toInt = 16 from by decide) h54_0
      exact hk w z (by have e : i = 16 := (by omega); subst e; exact hP) hG
    · have h54_0 := aw_ge_f (a := ((i : Int) : Int)) (b := (16 : Int)) hz (show (((Int8.ofInt 16).toInt32)).toInt = 16 from by decide) h54_0
      exfalso
      omega
  | succ n ih =>
    intro i z w hi hz hP hG
    refine wk_iload_n xd_8b267383 rfl ?_
    refine wk_bipush xd_d458cc57 ?_
    refine wk_icmp xd_a3c669e6 (t := 80) rfl (fun h54_1 => ?_) (fun h54_1 => ?_)
    · have h54_1 := aw_ge_t (a := ((i : Int) : Int)) (b := (16 : Int)) hz (show (((Int8.ofInt 16).toInt32)).toInt = 16 from by decide) h54_1
      exfalso
      omega
    · have h54_1 := aw_ge_f (a := ((i : Int) : Int)) (b := (16 : Int)) hz (show (((Int8.ofInt 16).toInt32)).toInt = 16 from by decide) h54_1
      refine wk_aload_n xd_462f81f4 rfl ?_
      refine wk_getR xf_3f7652c4 xd_9a2d1d16 ?_
      refine wk_bipush xd_faa35c42 ?_
      refine wk_iload_n xd_790e7392 rfl ?_
      refine aw_imul (a := (16 : Int)) (b := (1 : Int)) (e := (16 : Int)) xd_2cceb97d (show (((Int8.ofInt 16).toInt32)).toInt = 16 from by decide) hk0 (by omega) (by omega) (by omega) (fun v3_ p3_ => ?_)
      refine wk_iload_n xd_d3647b38 rfl ?_
      refine aw_iadd (a := (16 : Int)) (b := ((i : Int) : Int)) (e := ((i : Int) + 16 : Int)) xd_16402275 p3_ hz (by omega) (by omega) (by omega) (fun v4_ p4_ => ?_)
      refine wk_aload_n xd_1e3128dc rfl ?_
      refine wk_getR xf_521296cb xd_934499e0 ?_
      refine wk_iload_n xd_521dbf8c rfl ?_
      refine aw_laload (i := i) xf_69b9f963 hz (by omega) (by omega) xd_17f5e80c ?_
      refine aw_lastore (i := (16 + i)) xf_f15e6417 p4_ (by omega) (by omega) xd_5119a324 ?_
      refine aw_iinc (a := ((i : Int) : Int)) (b := (1 : Int)) (e := ((i : Int) + 1 : Int)) xd_65e6e696 (by rw [xm_6358a306]; rfl) rfl rfl hz (show ((Int32.ofInt 1)).toInt = 1 from by decide) (by omega) (by omega) (by omega) (fun v5_ p5_ => ?_)
      refine wk_goto xd_7dd2acd2 (t := 51) rfl ?_
      refine ih (i + 1) _ _ (by omega) (by rw [p5_]; omega) ?_ (aw_u2G hG)
      exact fun k j => hP k j
theorem hre0_a (w1 : cm_W) (k : Int32) (hk0 : k.toInt = 0) (hsp : ∀ w : cm_W, (∀ k j, ¬ (k = 186 ∧ 0 ≤ j ∧ j < 0 + 301) → w.1 k j = w1.1 k j) → 1 ≤ (w.1 201 4).toInt) (Q : cm_O → Prop) (hk : ∀ w z, hCpy 186 0 201 0 301 w1 w (301) → sv_w sg w → cm_X (cm_C 1) 138 58 [some (.inr (.inr (some 184))), some (.inl k), some (.inl z)] [] w Q) : ∀ (n i : Nat) (z : Int32) (w : cm_W), n + i = 301 → z.toInt = (i : Int) → hCpy 186 0 201 0 301 w1 w (i) → sv_w sg w → cm_X (cm_C 1) 138 27 [some (.inr (.inr (some 184))), some (.inl k), some (.inl z)] [] w Q := by
  intro n
  induction n with
  | zero =>
    intro i z w hi hz hP hG
    refine wk_iload_n xd_4b052cbc rfl ?_
    refine wk_sipush xd_af940999 ?_
    refine wk_icmp xd_be918101 (t := 58) rfl (fun h31_0 => ?_) (fun h31_0 => ?_)
    · have h31_0 := aw_ge_t (a := ((i : Int) : Int)) (b := (301 : Int)) hz (show (((Int16.ofInt 301).toInt32)).toInt = 301 from by decide) h31_0
      exact hk w z (by have e : i = 301 := (by omega); subst e; exact hP) hG
    · have h31_0 := aw_ge_f (a := ((i : Int) : Int)) (b := (301 : Int)) hz (show (((Int16.ofInt 301).toInt32)).toInt = 301 from by decide) h31_0
      exfalso
      omega
  | succ n ih =>
    intro i z w hi hz hP hG
    refine wk_iload_n xd_4b052cbc rfl ?_
    refine wk_sipush xd_af940999 ?_
    refine wk_icmp xd_be918101 (t := 58) rfl (fun h31_1 => ?_) (fun h31_1 => ?_)
    · have h31_1 := aw_ge_t (a := ((i : Int) : Int)) (b := (301 : Int)) hz (show (((Int16.ofInt 301).toInt32)).toInt = 301 from by decide) h31_1
      exfalso
      omega
    · have h31_1 := aw_ge_f (a := ((i : Int) : Int)) (b := (301 : Int)) hz (show (((Int16.ofInt 301).toInt32)).toInt = 301 from by decide) h31_1
      refine wk_aload_n xd_9c06f0ab rfl ?_
      refine wk_getR xf_51bc010c xd_21e761a9 ?_
      refine wk_iload_n xd_bc209213 rfl ?_
      refine wk_aload_n xd_0790f8ca rfl ?_
      refine wk_getR xf_89bc19cd xd_38559679 ?_
      refine wk_sipush xd_4e5cf0a9 ?_
      refine wk_iload_n xd_27ebeee8 rfl ?_
      refine aw_imul (a := (301 : Int)) (b := (0 : Int)) (e := (0 : Int)) xd_c8795e87 (show (((Int16.ofInt 301).toInt32)).toInt = 301 from by decide) hk0 (by omega) (by omega) (by omega) (fun v3_ p3_ => ?_)
      refine wk_iload_n xd_8d38a564 rfl ?_
      refine aw_iadd (a := (0 : Int)) (b := ((i : Int) : Int)) (e := ((i : Int) : Int)) xd_ee0ebc85 p3_ hz (by omega) (by omega) (by omega) (fun v4_ p4_ => ?_)
      refine aw_iaload (i := i) xf_e2f87daf p4_ (by omega) (by omega) xd_44868255 ?_
      refine aw_iastore (i := i) xf_31d67ad9 hz (by omega) (by omega) xd_43fd391e ?_
      have hG5_ : sv_w sg (cm_u1 w 186 i (w.1 201 i)) := sv_w_u1 hG (by
      by_cases e4 : i = 4
      · subst e4
        rw [xg_a0777398]
        have e := hG 201 4
        rw [xg_367a75e1] at e
        have e := hb_in e
        have e1 := hsp w hP.2
        exact hb_mk (by omega) (by omega)
      · exact aw_inc (xj_a2fd07b6 i (by omega) e4) (hG 201 i))
      refine aw_iinc (a := ((i : Int) : Int)) (b := (1 : Int)) (e := ((i : Int) + 1 : Int)) xd_67fa3fae (by rw [xm_64201aac]; rfl) rfl rfl hz (show ((Int32.ofInt 1)).toInt = 1 from by decide) (by omega) (by omega) (by omega) (fun v6_ p6_ => ?_)
      refine wk_goto xd_c64e876a (t := 27) rfl ?_
      refine ih (i + 1) _ _ (by omega) (by rw [p6_]; omega) ?_ hG5_
      refine ⟨fun j hj => ?_, fun k j hkj => (hs_u1_ne (by omega)).trans (hP.2 k j hkj)⟩
      by_cases e : j = i
      · rw [e, show 0 + i = i from by omega, hs_u1_self]
        exact hP.2 201 i (by omega)
      · rw [hs_u1_ne (by omega)]
        exact hP.1 j (by omega)
theorem hre0_b (w1 : cm_W) (k : Int32) (hk0 : k.toInt = 0) (Q : cm_O → Prop) (hk : ∀ w z, hSame w1 w (16) → sv_w sg w → cm_X (cm_C 1) 138 89 [some (.inr (.inr (some 184))), some (.inl k), some (.inl z)] [] w Q) : ∀ (n i : Nat) (z : Int32) (w : cm_W), n + i = 16 → z.toInt = (i : Int) → hSame w1 w (i) → sv_w sg w → cm_X (cm_C 1) 138 60 [some (.inr (.inr (some 184))), some (.inl k), some (.inl z)] [] w Q := by
  intro n
  induction n with
  | zero =>
    intro i z w hi hz hP hG
    refine wk_iload_n xd_54ba2a4d rfl ?_
    refine wk_bipush xd_e6524670 ?_
    refine wk_icmp xd_b4f3e97e (t := 89) rfl (fun h63_0 => ?_) (fun h63_0 => ?_)
    · have h63_0 := aw_ge_t (a := ((i : Int) : Int)) (b := (16 : Int)) hz (show (((Int8.ofInt 16).toInt32)).toInt = 16 from by decide) h63_0
      exact hk w z (by have e : i = 16 := (by omega); subst e; exact hP) hG
    · have h63_0 := aw_ge_f (a := ((i : Int) : Int)) (b := (16 : Int)) hz (show (((Int8.ofInt 16).toInt32)).toInt = 16 from by decide) h63_0
      exfalso
      omega
  | succ n ih =>
    intro i z w hi hz hP hG
    refine wk_iload_n xd_54ba2a4d rfl ?_
    refine wk_bipush xd_e6524670 ?_
    refine wk_icmp xd_b4f3e97e (t := 89) rfl (fun h63_1 => ?_) (fun h63_1 => ?_)
    · have h63_1 := aw_ge_t (a := ((i : Int) : Int)) (b := (16 : Int)) hz (show (((Int8.ofInt 16).toInt32)).toInt = 16 from by decide) h63_1
      exfalso
      omega
    · have h63_1 := aw_ge_f (a := ((i : Int) : Int)) (b := (16 : Int)) hz (show (((Int8.ofInt 16).toInt32)).toInt = 16 from by decide) h63_1
      refine wk_aload_n xd_99b3d83a rfl ?_
      refine wk_getR xf_4ee38cf9 xd_610d4705 ?_
      refine wk_iload_n xd_d59f4f6a rfl ?_
      refine wk_aload_n xd_6e2f25b3 rfl ?_
      refine wk_getR xf_f7bdf25e xd_23185269 ?_
      refine wk_bipush xd_672b82c4 ?_
      refine wk_iload_n xd_e486ad14 rfl ?_
      refine aw_imul (a := (16 : Int)) (b := (0 : Int)) (e := (0 : Int)) xd_9d507c46 (show (((Int8.ofInt 16).toInt32)).toInt = 16 from by decide) hk0 (by omega) (by omega) (by omega) (fun v3_ p3_ => ?_)
      refine wk_iload_n xd_4e55e698 rfl ?_
      refine aw_iadd (a := (0 : Int)) (b := ((i : Int) : Int)) (e := ((i : Int) : Int)) xd_f6c4b40f p3_ hz (by omega) (by omega) (by omega) (fun v4_ p4_ => ?_)
      refine aw_laload (i := i) xf_f15e6417 p4_ (by omega) (by omega) xd_6f19fc04 ?_
      refine aw_lastore (i := i) xf_69b9f963 hz (by omega) (by omega) xd_bb7ec67f ?_
      refine aw_iinc (a := ((i : Int) : Int)) (b := (1 : Int)) (e := ((i : Int) + 1 : Int)) xd_eb44530f (by rw [xm_64201aac]; rfl) rfl rfl hz (show ((Int32.ofInt 1)).toInt = 1 from by decide) (by omega) (by omega) (by omega) (fun v5_ p5_ => ?_)
      refine wk_goto xd_d6670670 (t := 60) rfl ?_
      refine ih (i + 1) _ _ (by omega) (by rw [p5_]; omega) ?_ (aw_u2G hG)
      exact fun k j => hP k j
theorem hre1_a (w1 : cm_W) (k : Int32) (hk0 : k.toInt = 1) (hsp : ∀ w : cm_W, (∀ k j, ¬ (k = 186 ∧ 0 ≤ j ∧ j < 0 + 301) → w.1 k j = w1.1 k j) → 1 ≤ (w.1 201 305).toInt) (Q : cm_O → Prop) (hk : ∀ w z, hCpy 186 0 201 301 301 w1 w (301) → sv_w sg w → cm_X (cm_C 1) 138 58 [some (.inr (.inr (some 184))), some (.inl k), some (.inl z)] [] w Q) : ∀ (n i : Nat) (z : Int32) (w : cm_W), n + i = 301 → z.toInt = (i : Int) → hCpy 186 0 201 301 301 w1 w (i) → sv_w sg w → cm_X (cm_C 1) 138 27 [some (.inr (.inr (some 184))), some (.inl k), some (.inl z)] [] w Q := by
  intro n
  induction n with
  | zero =>
    intro i z w hi hz hP hG
    refine wk_iload_n xd_4b052cbc rfl ?_
    refine wk_sipush xd_af940999 ?_
    refine wk_icmp xd_be918101 (t := 58) rfl (fun h31_0 => ?_) (fun h31_0 => ?_)
    · have h31_0 := aw_ge_t (a := ((i : Int) : Int)) (b := (301 : Int)) hz (show (((Int16.ofInt 301).toInt32)).toInt = 301 from by decide) h31_0
      exact hk w z (by have e : i = 301 := (by omega); subst e; exact hP) hG
    · have h31_0 := aw_ge_f (a := ((i : Int) : Int)) (b := (301 : Int)) hz (show (((Int16.ofInt 301).toInt32)).toInt = 301 from by decide) h31_0
      exfalso
      omega
  | succ n ih =>
    intro i z w hi hz hP hG
    refine wk_iload_n xd_4b052cbc rfl ?_
    refine wk_sipush xd_af940999 ?_
    refine wk_icmp xd_be918101 (t := 58) rfl (fun h31_1 => ?_) (fun h31_1 => ?_)
    · have h31_1 := aw_ge_t (a := ((i : Int) : Int)) (b := (301 : Int)) hz (show (((Int16.ofInt 301).toInt32)).toInt = 301 from by decide) h31_1
      exfalso
      omega
    · have h31_1 := aw_ge_f (a := ((i : Int) : Int)) (b := (301 : Int)) hz (show (((Int16.ofInt 301).toInt32)).toInt = 301 from by decide) h31_1
      refine wk_aload_n xd_9c06f0ab rfl ?_
      refine wk_getR xf_51bc010c xd_21e761a9 ?_
      refine wk_iload_n xd_bc209213 rfl ?_
      refine wk_aload_n xd_0790f8ca rfl ?_
      refine wk_getR xf_89bc19cd xd_38559679 ?_
      refine wk_sipush xd_4e5cf0a9 ?_
      refine wk_iload_n xd_27ebeee8 rfl ?_
      refine aw_imul (a := (301 : Int)) (b := (1 : Int)) (e := (301 : Int)) xd_c8795e87 (show (((Int16.ofInt 301).toInt32)).toInt = 301 from by decide) hk0 (by omega) (by omega) (by omega) (fun v3_ p3_ => ?_)
      refine wk_iload_n xd_8d38a564 rfl ?_
      refine aw_iadd (a := (301 : Int)) (b := ((i : Int) : Int)) (e := ((i : Int) + 301 : Int)) xd_ee0ebc85 p3_ hz (by omega) (by omega) (by omega) (fun v4_ p4_ => ?_)
      refine aw_iaload (i := (301 + i)) xf_e2f87daf p4_ (by omega) (by omega) xd_44868255 ?_
      refine aw_iastore (i := i) xf_31d67ad9 hz (by omega) (by omega) xd_43fd391e ?_
      have hG5_ : sv_w sg (cm_u1 w 186 i (w.1 201 (301 + i))) := sv_w_u1 hG (by
      by_cases e4 : i = 4
      · subst e4
        rw [xg_a0777398]
        have e := hG 201 305
        rw [xg_85ca1db5] at e
        have e := hb_in e
        have e1 := hsp w hP.2
        rw [show w.1 201 (301 + 4) = w.1 201 305 from rfl]
        exact hb_mk (by omega) (by omega)
      · exact aw_inc (xj_f76cf1d3 i (by omega) e4) (hG 201 (301 + i)))
      refine aw_iinc (a := ((i : Int) : Int)) (b := (1 : Int)) (e := ((i : Int) + 1 : Int)) xd_67fa3fae (by rw [xm_64201aac]; rfl) rfl rfl hz (show ((Int32.ofInt 1)).toInt = 1 from by decide) (by omega) (by omega) (by omega) (fun v6_ p6_ => ?_)
      refine wk_goto xd_c64e876a (t := 27) rfl ?_
      refine ih (i + 1) _ _ (by omega) (by rw [p6_]; omega) ?_ hG5_
      refine ⟨fun j hj => ?_, fun k j hkj => (hs_u1_ne (by omega)).trans (hP.2 k j hkj)⟩
      by_cases e : j = i
      · rw [e, show 0 + i = i from by omega, hs_u1_self, show 301 + i = (301 + i) from by omega]
        exact hP.2 201 (301 + i) (by omega)
      · rw [hs_u1_ne (by omega)]
        exact hP.1 j (by omega)
theorem hre1_b (w1 : cm_W) (k : Int32) (hk0 : k.toInt = 1) (Q : cm_O → Prop) (hk : ∀ w z, hSame w1 w (16) → sv_w sg w → cm_X (cm_C 1) 138 89 [some (.inr (.inr (some 184))), some (.inl k), some (.inl z)] [] w Q) : ∀ (n i : Nat) (z : Int32) (w : cm_W), n + i = 16 → z.toInt = (i : Int) → hSame w1 w (i) → sv_w sg w → cm_X (cm_C 1) 138 60 [some (.inr (.inr (some 184))), some (.inl k), some (.inl z)] [] w Q := by
  intro n
  induction n with
  | zero =>
    intro i z w hi hz hP hG
    refine wk_iload_n xd_54ba2a4d rfl ?_
    refine wk_bipush xd_e6524670 ?_
    refine wk_icmp xd_b4f3e97e (t := 89) rfl (fun h63_0 => ?_) (fun h63_0 => ?_)
    · have h63_0 := aw_ge_t (a := ((i : Int) : Int)) (b := (16 : Int)) hz (show (((Int8.ofInt 16).toInt32)).toInt = 16 from by decide) h63_0
      exact hk w z (by have e : i = 16 := (by omega); subst e; exact hP) hG
    · have h63_0 := aw_ge_f (a := ((i : Int) : Int)) (b := (16 : Int)) hz (show (((Int8.ofInt 16).toInt32)).toInt = 16 from by decide) h63_0
      exfalso
      omega
  | succ n ih =>
    intro i z w hi hz hP hG
    refine wk_iload_n xd_54ba2a4d rfl ?_
    refine wk_bipush xd_e6524670 ?_
    refine wk_icmp xd_b4f3e97e (t := 89) rfl (fun h63_1 => ?_) (fun h63_1 => ?_)
    · have h63_1 := aw_ge_t (a := ((i : Int) : Int)) (b := (16 : Int)) hz (show (((Int8.ofInt 16).toInt32)).toInt = 16 from by decide) h63_1
      exfalso
      omega
    · have h63_1 := aw_ge_f (a := ((i : Int) : Int)) (b := (16 : Int)) hz (show (((Int8.ofInt 16).toInt32)).toInt = 16 from by decide) h63_1
      refine wk_aload_n xd_99b3d83a rfl ?_
      refine wk_getR xf_4ee38cf9 xd_610d4705 ?_
      refine wk_iload_n xd_d59f4f6a rfl ?_
      refine wk_aload_n xd_6e2f25b3 rfl ?_
      refine wk_getR xf_f7bdf25e xd_23185269 ?_
      refine wk_bipush xd_672b82c4 ?_
      refine wk_iload_n xd_e486ad14 rfl ?_
      refine aw_imul (a := (16 : Int)) (b := (1 : Int)) (e := (16 : Int)) xd_9d507c46 (show (((Int8.ofInt 16).toInt32)).toInt = 16 from by decide) hk0 (by omega) (by omega) (by omega) (fun v3_ p3_ => ?_)
      refine wk_iload_n xd_4e55e698 rfl ?_
      refine aw_iadd (a := (16 : Int)) (b := ((i : Int) : Int)) (e := ((i : Int) + 16 : Int)) xd_f6c4b40f p3_ hz (by omega) (by omega) (by omega) (fun v4_ p4_ => ?_)
      refine aw_laload (i := (16 + i)) xf_f15e6417 p4_ (by omega) (by omega) xd_6f19fc04 ?_
      refine aw_lastore (i := i) xf_69b9f963 hz (by omega) (by omega) xd_bb7ec67f ?_
      refine aw_iinc (a := ((i : Int) : Int)) (b := (1 : Int)) (e := ((i : Int) + 1 : Int)) xd_eb44530f (by rw [xm_64201aac]; rfl) rfl rfl hz (show ((Int32.ofInt 1)).toInt = 1 from by decide) (by omega) (by omega) (by omega) (fun v5_ p5_ => ?_)
      refine wk_goto xd_d6670670 (t := 60) rfl ?_
      refine ih (i + 1) _ _ (by omega) (by rw [p5_]; omega) ?_ (aw_u2G hG)
      exact fun k j => hP k j
theorem him0_w {w : cm_W} {k : Int32} (hk0 : k.toInt = 0) (hG : sv_w sg w) : cm_X (cm_C 1) 112 16 [some (.inr (.inr (some 184))), some (.inl k), none] [] w (fun o : cm_O => ∃ w', o = (some (.inl (Int32.ofInt 1)), w') ∧ sv_w sg w' ∧ (∀ j, j < 301 → w'.1 201 (0 + j) = w.1 186 (0 + j)) ∧ (∀ c j, ¬ (c = 201 ∧ 0 ≤ j ∧ j < 0 + 301) → ¬ (c = 203 ∧ j = 0) → w'.1 c j = w.1 c j) ∧ (w'.1 203 0).toInt = 1) := by
  refine wk_iconst xd_a97a76d5 ?_
  refine wk_istore_n xd_9b9a0849 (by rw [xm_6358a306]; rfl) rfl ?_
  refine him0_a w k hk0 _ (fun w2 z hP2 hG2 => ?_) 301 0 _ w (by omega) (by decide) ⟨fun j hj => absurd hj (Nat.not_lt_zero j), fun _ _ _ => rfl⟩ hG
  refine wk_iconst xd_eecf25d2 ?_
  refine wk_istore_n xd_513f75c5 (by rw [xm_6358a306]; rfl) rfl ?_
  refine him0_b w2 k hk0 _ (fun w3 z3 hP3 hG3 => ?_) 16 0 _ w2 (by omega) (by decide) (fun _ _ => rfl) hG2
  refine wk_aload_n xd_0ab8de9c rfl ?_
  refine wk_getR xf_385f8bf3 xd_ccad798a ?_
  refine wk_iload_n xd_6d8785d2 rfl ?_
  refine wk_iconst xd_36a85bd7 ?_
  refine aw_bastore (i := 0) xf_3716dfb6 hk0 (by omega) (by omega) xd_52d61747 rfl ?_
  have hG1_ : sv_w sg (cm_u1 w3 203 0 (vp_nar .boolean (Int32.ofInt 1))) := sv_w_u1 hG3 (by rw [xg_52f3a2aa]; exact sv_bool _)
  refine wk_iconst xd_18f89257 ?_
  exact wk_ireturn xd_05056f32 xr_719b2703 wk_z1 ⟨_, rfl, hG1_, fun j hj => by rw [hs_u1_ne (by omega), hP3 201 (0 + j)]; exact hP2.1 j hj, fun c j h1 h2 => by rw [hs_u1_ne h2, hP3 c j]; exact hP2.2 c j h1, by rw [hs_u1_self]; decide⟩
theorem him1_w {w : cm_W} {k : Int32} (hk0 : k.toInt = 1) (hG : sv_w sg w) : cm_X (cm_C 1) 112 16 [some (.inr (.inr (some 184))), some (.inl k), none] [] w (fun o : cm_O => ∃ w', o = (some (.inl (Int32.ofInt 1)), w') ∧ sv_w sg w' ∧ (∀ j, j < 301 → w'.1 201 (301 + j) = w.1 186 (0 + j)) ∧ (∀ c j, ¬ (c = 201 ∧ 301 ≤ j ∧ j < 301 + 301) → ¬ (c = 203 ∧ j = 1) → w'.1 c j = w.1 c j) ∧ (w'.1 203 1).toInt = 1) := by
  refine wk_iconst xd_a97a76d5 ?_
  refine wk_istore_n xd_9b9a0849 (by rw [xm_6358a306]; rfl) rfl ?_
  refine him1_a w k hk0 _ (fun w2 z hP2 hG2 => ?_) 301 0 _ w (by omega) (by decide) ⟨fun j hj => absurd hj (Nat.not_lt_zero j), fun _ _ _ => rfl⟩ hG
  refine wk_iconst xd_eecf25d2 ?_
  refine wk_istore_n xd_513f75c5 (by rw [xm_6358a306]; rfl) rfl ?_
  refine him1_b w2 k hk0 _ (fun w3 z3 hP3 hG3 => ?_) 16 0 _ w2 (by omega) (by decide) (fun _ _ => rfl) hG2
  refine wk_aload_n xd_0ab8de9c rfl ?_
  refine wk_getR xf_385f8bf3 xd_ccad798a ?_
  refine wk_iload_n xd_6d8785d2 rfl ?_
  refine wk_iconst xd_36a85bd7 ?_
  refine aw_bastore (i := 1) xf_3716dfb6 hk0 (by omega) (by omega) xd_52d61747 rfl ?_
  have hG1_ : sv_w sg (cm_u1 w3 203 1 (vp_nar .boolean (Int32.ofInt 1))) := sv_w_u1 hG3 (by rw [xg_53465fb7]; exact sv_bool _)
  refine wk_iconst xd_18f89257 ?_
  exact wk_ireturn xd_05056f32 xr_719b2703 wk_z1 ⟨_, rfl, hG1_, fun j hj => by rw [hs_u1_ne (by omega), hP3 201 (301 + j)]; exact hP2.1 j hj, fun c j h1 h2 => by rw [hs_u1_ne h2, hP3 c j]; exact hP2.2 c j h1, by rw [hs_u1_self]; decide⟩
theorem hre0_w {w : cm_W} {k : Int32} (hk0 : k.toInt = 0) (hG : sv_w sg w) (hsp : 1 ≤ (w.1 201 4).toInt) : cm_X (cm_C 1) 138 25 [some (.inr (.inr (some 184))), some (.inl k), none] [] w (fun o : cm_O => ∃ w', o = (some (.inl (Int32.ofInt 1)), w') ∧ sv_w sg w' ∧ (∀ j, j < 301 → w'.1 186 (0 + j) = w.1 201 (0 + j)) ∧ (∀ c j, ¬ (c = 186 ∧ 0 ≤ j ∧ j < 0 + 301) → ¬ (c = 184 ∧ j = 23) → w'.1 c j = w.1 c j) ∧ (w'.1 184 23).toInt = 0) := by
  refine wk_iconst xd_7b9cb2f9 ?_
  refine wk_istore_n xd_e7997ba7 (by rw [xm_64201aac]; rfl) rfl ?_
  refine hre0_a w k hk0 (fun v hv => by rw [hv 201 4 (by omega)]; exact hsp) _ (fun w2 z hP2 hG2 => ?_) 301 0 _ w (by omega) (by decide) ⟨fun j hj => absurd hj (Nat.not_lt_zero j), fun _ _ _ => rfl⟩ hG
  refine wk_iconst xd_ffeffb97 ?_
  refine wk_istore_n xd_cadc8cc6 (by rw [xm_64201aac]; rfl) rfl ?_
  refine hre0_b w2 k hk0 _ (fun w3 z3 hP3 hG3 => ?_) 16 0 _ w2 (by omega) (by decide) (fun _ _ => rfl) hG2
  refine wk_aload_n xd_8d836d5c rfl ?_
  refine wk_iconst xd_46493f22 ?_
  refine wk_putI xf_b31930b5 (fun ci => wk_fitI ci) xd_5a501bbb ?_
  have hG1_ : sv_w sg (cm_u1 w3 184 23 (Int32.ofInt 0)) := sv_w_u1 hG3 (by rw [xg_14fa25fd]; exact hb_mk (by rw [(show ((Int32.ofInt 0)).toInt = 0 from by decide)]; omega) (by rw [(show ((Int32.ofInt 0)).toInt = 0 from by decide)]; omega))
  refine wk_iconst xd_27888592 ?_
  exact wk_ireturn xd_13db7b24 xr_466393d9 wk_z1 ⟨_, rfl, hG1_, fun j hj => by rw [hs_u1_ne (by omega), hP3 186 (0 + j)]; exact hP2.1 j hj, fun c j h1 h2 => by rw [hs_u1_ne h2, hP3 c j]; exact hP2.2 c j h1, by rw [hs_u1_self]; decide⟩
theorem hre1_w {w : cm_W} {k : Int32} (hk0 : k.toInt = 1) (hG : sv_w sg w) (hsp : 1 ≤ (w.1 201 305).toInt) : cm_X (cm_C 1) 138 25 [some (.inr (.inr (some 184))), some (.inl k), none] [] w (fun o : cm_O => ∃ w', o = (some (.inl (Int32.ofInt 1)), w') ∧ sv_w sg w' ∧ (∀ j, j < 301 → w'.1 186 (0 + j) = w.1 201 (301 + j)) ∧ (∀ c j, ¬ (c = 186 ∧ 0 ≤ j ∧ j < 0 + 301) → ¬ (c = 184 ∧ j = 23) → w'.1 c j = w.1 c j) ∧ (w'.1 184 23).toInt = 0) := by
  refine wk_iconst xd_7b9cb2f9 ?_
  refine wk_istore_n xd_e7997ba7 (by rw [xm_64201aac]; rfl) rfl ?_
  refine hre1_a w k hk0 (fun v hv => by rw [hv 201 305 (by omega)]; exact hsp) _ (fun w2 z hP2 hG2 => ?_) 301 0 _ w (by omega) (by decide) ⟨fun j hj => absurd hj (Nat.not_lt_zero j), fun _ _ _ => rfl⟩ hG
  refine wk_iconst xd_ffeffb97 ?_
  refine wk_istore_n xd_cadc8cc6 (by rw [xm_64201aac]; rfl) rfl ?_
  refine hre1_b w2 k hk0 _ (fun w3 z3 hP3 hG3 => ?_) 16 0 _ w2 (by omega) (by decide) (fun _ _ => rfl) hG2
  refine wk_aload_n xd_8d836d5c rfl ?_
  refine wk_iconst xd_46493f22 ?_
  refine wk_putI xf_b31930b5 (fun ci => wk_fitI ci) xd_5a501bbb ?_
  have hG1_ : sv_w sg (cm_u1 w3 184 23 (Int32.ofInt 0)) := sv_w_u1 hG3 (by rw [xg_14fa25fd]; exact hb_mk (by rw [(show ((Int32.ofInt 0)).toInt = 0 from by decide)]; omega) (by rw [(show ((Int32.ofInt 0)).toInt = 0 from by decide)]; omega))
  refine wk_iconst xd_27888592 ?_
  exact wk_ireturn xd_13db7b24 xr_466393d9 wk_z1 ⟨_, rfl, hG1_, fun j hj => by rw [hs_u1_ne (by omega), hP3 186 (0 + j)]; exact hP2.1 j hj, fun c j h1 h2 => by rw [hs_u1_ne h2, hP3 c j]; exact hP2.2 c j h1, by rw [hs_u1_self]; decide⟩
theorem jie_ok {w : cm_W} {v a b : Int32} : ∃ x, cm_C 1 115 [.inl v, .inl a, .inl b] w (some (.inl x), w) ∧ ((a.toInt ≤ v.toInt ∧ v.toInt ≤ b.toInt ∧ x = Int32.ofInt 1) ∨ (¬ (a.toInt ≤ v.toInt ∧ v.toInt ≤ b.toInt) ∧ x = Int32.ofInt 0)) := by
  have h : ∃ o, cm_C (0 + 1) 115 [.inl v, .inl a, .inl b] w o ∧ (fun o : cm_O => ∃ x, o = (some (.inl x), w) ∧ ((a.toInt ≤ v.toInt ∧ v.toInt ≤ b.toInt ∧ x = Int32.ofInt 1) ∨ (¬ (a.toInt ≤ v.toInt ∧ v.toInt ≤ b.toInt) ∧ x = Int32.ofInt 0))) o := by
    refine wk_entry (by rw [xm_d1787f16]; exact Nat.le_of_ble_eq_true rfl) ?_
    rw [show cm_ent 115 [.inl v, .inl a, .inl b] = [some (.inl v), some (.inl a), some (.inl b)] from by unfold cm_ent; rw [xm_d1787f16]; rfl]
    refine wk_iload_n xd_c1fd17ef rfl ?_
    refine wk_iload_n xd_67eed48b rfl ?_
    refine wk_icmp xd_81a6b6c8 (t := 14) rfl (fun h2_0 => ?_) (fun h2_0 => ?_)
    · have h2_0 := aw_lt_t (a := ((v).toInt : Int)) (b := ((a).toInt : Int)) rfl rfl h2_0
      refine wk_iconst xd_5fe9c473 ?_
      exact wk_ireturn xd_cdef5f09 xr_51095b48 wk_z0 ⟨_, rfl, .inr ⟨by omega, rfl⟩⟩
    · have h2_0 := aw_lt_f (a := ((v).toInt : Int)) (b := ((a).toInt : Int)) rfl rfl h2_0
      refine wk_iload_n xd_5ad25ca8 rfl ?_
      refine wk_iload_n xd_56f736f5 rfl ?_
      refine wk_icmp xd_ef7c8d09 (t := 14) rfl (fun h7_1 => ?_) (fun h7_1 => ?_)
      · have h7_1 := aw_gt_t (a := ((v).toInt : Int)) (b := ((b).toInt : Int)) rfl rfl h7_1
        refine wk_iconst xd_5fe9c473 ?_
        exact wk_ireturn xd_cdef5f09 xr_51095b48 wk_z0 ⟨_, rfl, .inr ⟨by omega, rfl⟩⟩
      · have h7_1 := aw_gt_f (a := ((v).toInt : Int)) (b := ((b).toInt : Int)) rfl rfl h7_1
        refine wk_iconst xd_3e287ec3 ?_
        refine wk_goto xd_2e24e90c (t := 15) rfl ?_
        exact wk_ireturn xd_cdef5f09 xr_51095b48 wk_z1 ⟨_, rfl, .inl ⟨by omega, by omega, rfl⟩⟩
  obtain ⟨o, hC, x, rfl, a⟩ := h
  exact ⟨x, hC, a⟩
theorem cm_X_imp {C : Nat → List cm_V → cm_W → cm_O → Prop} {y pc : Nat} {lv : cm_L} {st : List cm_V} {w : cm_W} {P Q : cm_O → Prop} (h : cm_X C y pc lv st w P) (hi : ∀ o, P o → Q o) : cm_X C y pc lv st w Q := by
  obtain ⟨F, o, h1, h2⟩ := h
  exact ⟨F, o, h1, hi o h2⟩
/-- image of the reference ends -/
theorem him_ok {w : cm_W} {k : Int32} (hP : hPs w) (hK0 : hPk w 0 0) (hK1 : hPk w 301 1) (hG : sv_w sg w) : ∃ x w', cm_C 2 112 [.inr (.inr (some 184)), .inl k] w (some (.inl x), w') ∧ sv_w sg w' ∧ hPs w' ∧ hPk w' 0 0 ∧ hPk w' 301 1 ∧ (∀ c j, c ≠ 201 → c ≠ 203 → ¬ (c = 184 ∧ j = 0) → w'.1 c j = w.1 c j) ∧ ((k.toInt = 0 ∧ x = Int32.ofInt 1 ∧ (w'.1 203 0).toInt = 1 ∧ w'.1 203 1 = w.1 203 1) ∨ (k.toInt = 1 ∧ x = Int32.ofInt 1 ∧ (w'.1 203 1).toInt = 1 ∧ w'.1 203 0 = w.1 203 0) ∨ (¬ (0 ≤ k.toInt ∧ k.toInt ≤ 1) ∧ x = Int32.ofInt 0 ∧ w'.1 203 0 = w.1 203 0 ∧ w'.1 203 1 = w.1 203 1)) := by
  have h : ∃ o, cm_C (1 + 1) 112 [.inr (.inr (some 184)), .inl k] w o ∧ (fun o : cm_O => ∃ x w', o = (some (.inl x), w') ∧ sv_w sg w' ∧ hPs w' ∧ hPk w' 0 0 ∧ hPk w' 301 1 ∧ (∀ c j, c ≠ 201 → c ≠ 203 → ¬ (c = 184 ∧ j = 0) → w'.1 c j = w.1 c j) ∧ ((k.toInt = 0 ∧ x = Int32.ofInt 1 ∧ (w'.1 203 0).toInt = 1 ∧ w'.1 203 1 = w.1 203 1) ∨ (k.toInt = 1 ∧ x = Int32.ofInt 1 ∧ (w'.1 203 1).toInt = 1 ∧ w'.1 203 0 = w.1 203 0) ∨ (¬ (0 ≤ k.toInt ∧ k.toInt ≤ 1) ∧ x = Int32.ofInt 0 ∧ w'.1 203 0 = w.1 203 0 ∧ w'.1 203 1 = w.1 203 1))) o := by
    refine wk_entry (by rw [xm_6358a306]; exact Nat.le_of_ble_eq_true rfl) ?_
    rw [show cm_ent 112 [.inr (.inr (some 184)), .inl k] = [some (.inr (.inr (some 184))), some (.inl k), none] from by unfold cm_ent; rw [xm_6358a306]; rfl]
    refine wk_aload_n xd_433dbfa4 rfl ?_
    refine wk_iconst xd_bb4f9481 ?_
    refine wk_putI xf_9221ebe5 (fun ci => wk_fitI ci) xd_c4d4869e ?_
    have hG1_ : sv_w sg (cm_u1 w 184 0 (Int32.ofInt 0)) := sv_w_u1 hG (by rw [xg_59f145a5]; exact hb_mk (by rw [(show ((Int32.ofInt 0)).toInt = 0 from by decide)]; omega) (by rw [(show ((Int32.ofInt 0)).toInt = 0 from by decide)]; omega))
    refine wk_iload_n xd_bf710e3e rfl ?_
    refine wk_iconst xd_de96aac1 ?_
    refine wk_iconst xd_f4dee7b1 ?_
    obtain ⟨xe, hCe, hxe⟩ := jie_ok (w := (cm_u1 w 184 0 (Int32.ofInt 0))) (v := k) (a := (Int32.ofInt 0)) (b := (Int32.ofInt 1))
    rw [(show ((Int32.ofInt 0)).toInt = 0 from by decide)] at hxe
    rw [(show ((Int32.ofInt 1)).toInt = 1 from by decide)] at hxe
    have hxe : (0 ≤ k.toInt ∧ k.toInt ≤ 1 ∧ xe.toInt = 1) ∨ (¬ (0 ≤ k.toInt ∧ k.toInt ≤ 1) ∧ xe.toInt = 0) := by
      rcases hxe with ⟨g1, g2, g3⟩ | ⟨g1, g3⟩
      · exact .inl ⟨by omega, by omega, by rw [g3]; decide⟩
      · exact .inr ⟨by omega, by rw [g3]; decide⟩
    refine wk_call (kd := 1) (i := 182) xd_73ebc502 rfl (wk_cal (as := [.inl k, .inl (Int32.ofInt 0), .inl (Int32.ofInt 1)]) (t := []) xl_43f0f29f rfl xn_adc58d92 xc_a9508f83 rfl rfl rfl rfl) (cm_C_mono (by decide) hCe) ?_
    refine wk_if xd_e709d34b (t := 16) rfl (fun h11_1 => ?_) (fun h11_1 => ?_)
    · have h11_1 := aw_ne_t (a := ((xe).toInt : Int)) (b := (0 : Int)) rfl hb_z h11_1
      have hk01 : k.toInt = 0 ∨ k.toInt = 1 := by omega
      rcases hk01 with hk0 | hk0
      · refine cm_X_imp (him0_w hk0 hG1_) (fun o h => ?_)
        obtain ⟨w2, rfl, hG2, h1, h2, h3⟩ := h
        refine ⟨_, w2, rfl, hG2, hPs_fr (fun i => h2 186 i (by omega) (by omega)) hP, ?_, hPk_fr (fun j hj => h2 201 (301 + j) (by omega) (by omega)) (h2 203 1 (by omega) (by omega)) hK1, fun c j c1 c2 c3 => (h2 c j (by omega) (by omega)).trans (hs_u1_ne c3), ?_⟩
        rotate_left
        · exact .inl ⟨hk0, rfl, h3, (h2 203 1 (by omega) (by omega)).trans (hs_u1_ne (by omega))⟩
        refine ⟨?_, fun _ => ?_⟩
        · obtain ⟨c, hc, hf⟩ := hP
          exact ⟨c, by rw [h1 120 (by omega)]; exact hc, hPf_eq (fun j hj => (by rw [h1 (121 + j) (by omega), show 0 + (121 + j) = 121 + j from by omega]; rfl)) hf⟩
        · rw [h1 4 (by omega)]
          have g4 := hG 186 4
          rw [xg_a0777398] at g4
          have g4 := hb_in g4
          show 1 ≤ (w.1 186 4).toInt
          omega
      · refine cm_X_imp (him1_w hk0 hG1_) (fun o h => ?_)
        obtain ⟨w2, rfl, hG2, h1, h2, h3⟩ := h
        refine ⟨_, w2, rfl, hG2, hPs_fr (fun i => h2 186 i (by omega) (by omega)) hP, hPk_fr (fun j hj => h2 201 (0 + j) (by omega) (by omega)) (h2 203 0 (by omega) (by omega)) hK0, ?_, fun c j c1 c2 c3 => (h2 c j (by omega) (by omega)).trans (hs_u1_ne c3), ?_⟩
        rotate_left
        · exact .inr (.inl ⟨hk0, rfl, h3, (h2 203 0 (by omega) (by omega)).trans (hs_u1_ne (by omega))⟩)
        refine ⟨?_, fun _ => ?_⟩
        · obtain ⟨c, hc, hf⟩ := hP
          exact ⟨c, by rw [h1 120 (by omega)]; exact hc, hPf_eq (fun j hj => (by rw [h1 (121 + j) (by omega), show 0 + (121 + j) = 121 + j from by omega]; rfl)) hf⟩
        · rw [h1 4 (by omega)]
          have g4 := hG 186 4
          rw [xg_a0777398] at g4
          have g4 := hb_in g4
          show 1 ≤ (w.1 186 4).toInt
          omega
    · have h11_1 := aw_ne_f (a := ((xe).toInt : Int)) (b := (0 : Int)) rfl hb_z h11_1
      refine wk_iconst xd_872abf55 ?_
      exact wk_ireturn xd_03bfa3a1 xr_719b2703 wk_z0 ⟨_, _, rfl, hG1_, hP, hK0, hK1, fun c j _ _ h => hs_u1_ne h, .inr (.inr ⟨by omega, rfl, hs_u1_ne (by omega), hs_u1_ne (by omega)⟩)⟩
  obtain ⟨o, hC, x, w', rfl, a⟩ := h
  exact ⟨x, w', hC, a⟩
/-- restore of the reference ends -/
theorem hre_ok {w : cm_W} {k : Int32} (hP : hPs w) (hK0 : hPk w 0 0) (hK1 : hPk w 301 1) (hG : sv_w sg w) : ∃ x w', cm_C 2 138 [.inr (.inr (some 184)), .inl k] w (some (.inl x), w') ∧ sv_w sg w' ∧ hPs w' ∧ hPk w' 0 0 ∧ hPk w' 301 1 ∧ (∀ c j, c ≠ 186 → ¬ (c = 184 ∧ j = 23) → ¬ (c = 184 ∧ j = 0) → w'.1 c j = w.1 c j) ∧ ((k.toInt = 0 ∧ (w.1 203 0).toInt ≠ 0 ∧ x = Int32.ofInt 1) ∨ (k.toInt = 1 ∧ (w.1 203 1).toInt ≠ 0 ∧ x = Int32.ofInt 1) ∨ (¬ (k.toInt = 0 ∧ (w.1 203 0).toInt ≠ 0) ∧ ¬ (k.toInt = 1 ∧ (w.1 203 1).toInt ≠ 0) ∧ x = Int32.ofInt 0)) := by
  have h : ∃ o, cm_C (1 + 1) 138 [.inr (.inr (some 184)), .inl k] w o ∧ (fun o : cm_O => ∃ x w', o = (some (.inl x), w') ∧ sv_w sg w' ∧ hPs w' ∧ hPk w' 0 0 ∧ hPk w' 301 1 ∧ (∀ c j, c ≠ 186 → ¬ (c = 184 ∧ j = 23) → ¬ (c = 184 ∧ j = 0) → w'.1 c j = w.1 c j) ∧ ((k.toInt = 0 ∧ (w.1 203 0).toInt ≠ 0 ∧ x = Int32.ofInt 1) ∨ (k.toInt = 1 ∧ (w.1 203 1).toInt ≠ 0 ∧ x = Int32.ofInt 1) ∨ (¬ (k.toInt = 0 ∧ (w.1 203 0).toInt ≠ 0) ∧ ¬ (k.toInt = 1 ∧ (w.1 203 1).toInt ≠ 0) ∧ x = Int32.ofInt 0))) o := by
    refine wk_entry (by rw [xm_64201aac]; exact Nat.le_of_ble_eq_true rfl) ?_
    rw [show cm_ent 138 [.inr (.inr (some 184)), .inl k] = [some (.inr (.inr (some 184))), some (.inl k), none] from by unfold cm_ent; rw [xm_64201aac]; rfl]
    refine wk_aload_n xd_de46eff5 rfl ?_
    refine wk_iconst xd_12686a04 ?_
    refine wk_putI xf_f410289b (fun ci => wk_fitI ci) xd_d8259cac ?_
    have hG1_ : sv_w sg (cm_u1 w 184 0 (Int32.ofInt 0)) := sv_w_u1 hG (by rw [xg_59f145a5]; exact hb_mk (by rw [(show ((Int32.ofInt 0)).toInt = 0 from by decide)]; omega) (by rw [(show ((Int32.ofInt 0)).toInt = 0 from by decide)]; omega))
    refine wk_iload_n xd_220a5e6f rfl ?_
    refine wk_iconst xd_77b15444 ?_
    refine wk_iconst xd_5df91934 ?_
    obtain ⟨xe, hCe, hxe⟩ := jie_ok (w := (cm_u1 w 184 0 (Int32.ofInt 0))) (v := k) (a := (Int32.ofInt 0)) (b := (Int32.ofInt 1))
    rw [(show ((Int32.ofInt 0)).toInt = 0 from by decide)] at hxe
    rw [(show ((Int32.ofInt 1)).toInt = 1 from by decide)] at hxe
    have hxe : (0 ≤ k.toInt ∧ k.toInt ≤ 1 ∧ xe.toInt = 1) ∨ (¬ (0 ≤ k.toInt ∧ k.toInt ≤ 1) ∧ xe.toInt = 0) := by
      rcases hxe with ⟨g1, g2, g3⟩ | ⟨g1, g3⟩
      · exact .inl ⟨by omega, by omega, by rw [g3]; decide⟩
      · exact .inr ⟨by omega, by rw [g3]; decide⟩
    refine wk_call (kd := 1) (i := 182) xd_3befc751 rfl (wk_cal (as := [.inl k, .inl (Int32.ofInt 0), .inl (Int32.ofInt 1)]) (t := []) xl_b1daf6d3 rfl xn_adc58d92 xc_a9508f83 rfl rfl rfl rfl) (cm_C_mono (by decide) hCe) ?_
    refine wk_if xd_f912eea6 (t := 23) rfl (fun h11_1 => ?_) (fun h11_1 => ?_)
    · have h11_1 := aw_eq_t (a := ((xe).toInt : Int)) (b := (0 : Int)) rfl hb_z h11_1
      refine wk_iconst xd_096de879 ?_
      exact wk_ireturn xd_0c3a73fa xr_466393d9 wk_z0 ⟨_, _, rfl, hG1_, hP, hK0, hK1, fun c j _ _ h => hs_u1_ne h, .inr (.inr ⟨by omega, by omega, rfl⟩)⟩
    · have h11_1 := aw_eq_f (a := ((xe).toInt : Int)) (b := (0 : Int)) rfl hb_z h11_1
      have hk01 : k.toInt = 0 ∨ k.toInt = 1 := by omega
      rcases hk01 with hk0 | hk0
      · skip
        refine wk_aload_n xd_453d3ca4 rfl ?_
        refine wk_getR xf_f0942b69 xd_953609a0 ?_
        refine wk_iload_n xd_22bb24cc rfl ?_
        refine aw_baload (i := 0) xf_3716dfb6 hk0 (by omega) (by omega) xd_562390ed rfl ?_
        refine wk_if xd_eef851ac (t := 25) rfl (fun h20_102 => ?_) (fun h20_102 => ?_)
        · have h20_102 := aw_ne_t (a := ((w.1 203 0).toInt : Int)) (b := (0 : Int)) rfl hb_z h20_102
          refine cm_X_imp (hre0_w hk0 hG1_ (hK0.2 (by show (w.1 203 0).toInt ≠ 0; omega))) (fun o h => ?_)
          obtain ⟨w2, rfl, hG2, h1, h2, h3⟩ := h
          refine ⟨_, w2, rfl, hG2, ?_, hPk_fr (fun j hj => h2 201 (0 + j) (by omega) (by omega)) (h2 203 0 (by omega) (by omega)) hK0, hPk_fr (fun j hj => h2 201 (301 + j) (by omega) (by omega)) (h2 203 1 (by omega) (by omega)) hK1, fun c j c1 c2 c3 => (h2 c j (by omega) c2).trans (hs_u1_ne c3), .inl ⟨hk0, by show (w.1 203 0).toInt ≠ 0; omega, rfl⟩⟩
          obtain ⟨⟨c, hc, hf⟩, -⟩ := hK0
          have e0 : ∀ j, j < 301 → w2.1 186 j = w.1 201 (0 + j) := fun j hj => (congrArg (w2.1 186) (show j = 0 + j by omega)).trans (h1 j hj)
          exact ⟨c, by rw [e0 120 (by omega)]; exact hc, hPf_eq (fun j hj => (e0 (121 + j) (by omega)).symm) hf⟩
        · have h20_102 := aw_ne_f (a := ((w.1 203 0).toInt : Int)) (b := (0 : Int)) rfl hb_z h20_102
          refine wk_iconst xd_096de879 ?_
          exact wk_ireturn xd_0c3a73fa xr_466393d9 wk_z0 ⟨_, _, rfl, hG1_, hP, hK0, hK1, fun c j _ _ h => hs_u1_ne h, .inr (.inr ⟨by omega, by omega, rfl⟩)⟩
      · skip
        refine wk_aload_n xd_453d3ca4 rfl ?_
        refine wk_getR xf_f0942b69 xd_953609a0 ?_
        refine wk_iload_n xd_22bb24cc rfl ?_
        refine aw_baload (i := 1) xf_3716dfb6 hk0 (by omega) (by omega) xd_562390ed rfl ?_
        refine wk_if xd_eef851ac (t := 25) rfl (fun h20_152 => ?_) (fun h20_152 => ?_)
        · have h20_152 := aw_ne_t (a := ((w.1 203 1).toInt : Int)) (b := (0 : Int)) rfl hb_z h20_152
          refine cm_X_imp (hre1_w hk0 hG1_ (hK1.2 (by show (w.1 203 1).toInt ≠ 0; omega))) (fun o h => ?_)
          obtain ⟨w2, rfl, hG2, h1, h2, h3⟩ := h
          refine ⟨_, w2, rfl, hG2, ?_, hPk_fr (fun j hj => h2 201 (0 + j) (by omega) (by omega)) (h2 203 0 (by omega) (by omega)) hK0, hPk_fr (fun j hj => h2 201 (301 + j) (by omega) (by omega)) (h2 203 1 (by omega) (by omega)) hK1, fun c j c1 c2 c3 => (h2 c j (by omega) c2).trans (hs_u1_ne c3), .inr (.inl ⟨hk0, by show (w.1 203 1).toInt ≠ 0; omega, rfl⟩)⟩
          obtain ⟨⟨c, hc, hf⟩, -⟩ := hK1
          have e0 : ∀ j, j < 301 → w2.1 186 j = w.1 201 (301 + j) := fun j hj => (congrArg (w2.1 186) (show j = 0 + j by omega)).trans (h1 j hj)
          exact ⟨c, by rw [e0 120 (by omega)]; exact hc, hPf_eq (fun j hj => (e0 (121 + j) (by omega)).symm) hf⟩
        · have h20_152 := aw_ne_f (a := ((w.1 203 1).toInt : Int)) (b := (0 : Int)) rfl hb_z h20_152
          refine wk_iconst xd_096de879 ?_
          exact wk_ireturn xd_0c3a73fa xr_466393d9 wk_z0 ⟨_, _, rfl, hG1_, hP, hK0, hK1, fun c j _ _ h => hs_u1_ne h, .inr (.inr ⟨by omega, by omega, rfl⟩)⟩
  obtain ⟨o, hC, x, w', rfl, a⟩ := h
  exact ⟨x, w', hC, a⟩

/-! ## by hand: images of the class (wip/p2/gen9j.py) -/
section AW5
variable {C : Nat → List cm_V → cm_W → cm_O → Prop} {y pc : Nat} {lv : cm_L} {st : List cm_V} {w : cm_W} {Q : cm_O → Prop}
theorem aw_astore_n {i : Fin 4} {r : Nat} (hd : decode (ia_code y) pc = .ok (.astore_n i, 1)) (hm : Nat.blt i.val (ia_maxL y) = true) (hn : ia_nl (cm_el lv) i.val = true) (k : cm_X C y (pc + 1) (lv.set i.val (some (.inr (.inr (some r))))) st w Q) : cm_X C y pc lv (.inr (.inr (some r)) :: st) w Q := wk_sto (kd := 2) hd rfl hm rfl hn k
end AW5
theorem aw_tv2 {k i : Nat} (hg : sv_gr sg k = []) : sv_g sg k i = sv_top := by
  unfold sv_g
  rw [hg]
  rfl
theorem aw_cpG2 {w : cm_W} {d s n : Nat} (hg : sv_gr sg d = sv_gr sg s) (h : sv_w sg w) : sv_w sg (cm_cp w d s n) := fun k i => by
  show sv_in (sv_g sg k i) (if k = d ∧ i < n then w.1 s i else w.1 k i)
  by_cases e : k = d ∧ i < n
  · rw [if_pos e, e.1]
    unfold sv_g
    rw [hg]
    exact h s i
  · rw [if_neg e]
    exact h k i
/-- a sentence of the class: a step that names a person or a meeting has its number -/
def jR (s : Nat) (w : cm_W) : Prop := ∀ i : Nat, i < 40 → (i : Int) < (w.1 s 1).toInt → 16 ≤ (w.1 (s + 1) i).toInt → (w.1 (s + 1) i).toInt ≤ 17 → 0 ≤ (w.1 (s + 3) i).toInt ∧ (w.1 (s + 3) i).toInt ≤ 5
set_option maxRecDepth 100000 in
theorem xd_3a930f2e : decode (ia_code 85) 0 = .ok (.aload_n 0, 1) := fdd_d (by decide +kernel)
set_option maxRecDepth 100000 in
theorem xd_9c80cc4a : decode (ia_code 85) 1 = .ok (.aload_n 1, 1) := fdd_d (by decide +kernel)
set_option maxRecDepth 100000 in
theorem xd_4ec839a7 : decode (ia_code 85) 2 = .ok (.getfield 9, 3) := fdd_d (by decide +kernel)
set_option maxRecDepth 100000 in
theorem xf_fe5aec52 : wk_gf 85 9 18 0 0 = true := by decide +kernel
set_option maxRecDepth 100000 in
theorem xd_c8a83ea6 : decode (ia_code 85) 5 = .ok (.putfield 9, 3) := fdd_d (by decide +kernel)
set_option maxRecDepth 100000 in
theorem xf_a9ae451d : wk_pf 85 9 4 0 0 = true := by decide +kernel
set_option maxRecDepth 100000 in
theorem xg_72a348a8 : sv_g sg 18 0 = sv_top := by decide +kernel
set_option maxRecDepth 100000 in
theorem xg_c2ec6f90 : sv_g sg 4 0 = sv_top := by decide +kernel
set_option maxRecDepth 100000 in
theorem xd_3a2a4c08 : decode (ia_code 85) 8 = .ok (.aload_n 0, 1) := fdd_d (by decide +kernel)
set_option maxRecDepth 100000 in
theorem xd_9c398f6c : decode (ia_code 85) 9 = .ok (.aload_n 1, 1) := fdd_d (by decide +kernel)
set_option maxRecDepth 100000 in
theorem xd_5d3993dc : decode (ia_code 85) 10 = .ok (.getfield 56, 3) := fdd_d (by decide +kernel)
set_option maxRecDepth 100000 in
theorem xf_751247e4 : wk_gf 85 56 18 1 0 = true := by decide +kernel
set_option maxRecDepth 100000 in
theorem xd_d10589b6 : decode (ia_code 85) 13 = .ok (.putfield 56, 3) := fdd_d (by decide +kernel)
set_option maxRecDepth 100000 in
theorem xf_8485ff38 : wk_pf 85 56 4 1 0 = true := by decide +kernel
set_option maxRecDepth 100000 in
theorem xg_9d612396 : sv_g sg 18 1 = sv_top := by decide +kernel
set_option maxRecDepth 100000 in
theorem xg_2d2e04ae : sv_g sg 4 1 = sv_top := by decide +kernel
set_option maxRecDepth 100000 in
theorem xd_b94e31f1 : decode (ia_code 85) 16 = .ok (.aload_n 0, 1) := fdd_d (by decide +kernel)
set_option maxRecDepth 100000 in
theorem xd_1f5df295 : decode (ia_code 85) 17 = .ok (.aload_n 1, 1) := fdd_d (by decide +kernel)
set_option maxRecDepth 100000 in
theorem xd_f36297ba : decode (ia_code 85) 18 = .ok (.getfield 59, 3) := fdd_d (by decide +kernel)
set_option maxRecDepth 100000 in
theorem xf_caad3f7a : wk_gf 85 59 18 2 0 = true := by decide +kernel
set_option maxRecDepth 100000 in
theorem xd_3164d5c2 : decode (ia_code 85) 21 = .ok (.putfield 59, 3) := fdd_d (by decide +kernel)
set_option maxRecDepth 100000 in
theorem xf_3926f0cd : wk_pf 85 59 4 2 0 = true := by decide +kernel
set_option maxRecDepth 100000 in
theorem xg_76569895 : sv_g sg 18 2 = sv_top := by decide +kernel
set_option maxRecDepth 100000 in
theorem xg_c619bfad : sv_g sg 4 2 = sv_top := by decide +kernel
set_option maxRecDepth 100000 in
theorem xd_0cc64b30 : decode (ia_code 85) 24 = .ok (.aload_n 0, 1) := fdd_d (by decide +kernel)
set_option maxRecDepth 100000 in
theorem xd_aad58854 : decode (ia_code 85) 25 = .ok (.aload_n 1, 1) := fdd_d (by decide +kernel)
set_option maxRecDepth 100000 in
theorem xd_b7a1c6ec : decode (ia_code 85) 26 = .ok (.getfield 62, 3) := fdd_d (by decide +kernel)
set_option maxRecDepth 100000 in
theorem xf_d2534648 : wk_gf 85 62 18 3 0 = true := by decide +kernel
set_option maxRecDepth 100000 in
theorem xd_ec2b05ca : decode (ia_code 85) 29 = .ok (.putfield 62, 3) := fdd_d (by decide +kernel)
set_option maxRecDepth 100000 in
theorem xf_88a1ca67 : wk_pf 85 62 4 3 0 = true := by decide +kernel
set_option maxRecDepth 100000 in
theorem xg_a5e093b5 : sv_g sg 18 3 = (2147483648, 2147483654) := by decide +kernel
set_option maxRecDepth 100000 in
theorem xd_60295c6d : decode (ia_code 85) 32 = .ok (.aload_n 0, 1) := fdd_d (by decide +kernel)
set_option maxRecDepth 100000 in
theorem xd_c63a9f09 : decode (ia_code 85) 33 = .ok (.aload_n 1, 1) := fdd_d (by decide +kernel)
set_option maxRecDepth 100000 in
theorem xd_72fa9a36 : decode (ia_code 85) 34 = .ok (.getfield 65, 3) := fdd_d (by decide +kernel)
set_option maxRecDepth 100000 in
theorem xf_ab8e522b : wk_gf 85 65 18 4 0 = true := by decide +kernel
set_option maxRecDepth 100000 in
theorem xd_fec6805c : decode (ia_code 85) 37 = .ok (.putfield 65, 3) := fdd_d (by decide +kernel)
set_option maxRecDepth 100000 in
theorem xf_0fb07bde : wk_pf 85 65 4 4 0 = true := by decide +kernel
set_option maxRecDepth 100000 in
theorem xg_f7b3c760 : sv_g sg 18 4 = (2147483648, 2147483652) := by decide +kernel
set_option maxRecDepth 100000 in
theorem xd_bca7b8f3 : decode (ia_code 85) 40 = .ok (.aload_n 0, 1) := fdd_d (by decide +kernel)
set_option maxRecDepth 100000 in
theorem xd_1ab47b97 : decode (ia_code 85) 41 = .ok (.aload_n 1, 1) := fdd_d (by decide +kernel)
set_option maxRecDepth 100000 in
theorem xd_39724907 : decode (ia_code 85) 42 = .ok (.getfield 68, 3) := fdd_d (by decide +kernel)
set_option maxRecDepth 100000 in
theorem xf_b8424b19 : wk_gf 85 68 18 5 0 = true := by decide +kernel
set_option maxRecDepth 100000 in
theorem xd_4ef31996 : decode (ia_code 85) 45 = .ok (.putfield 68, 3) := fdd_d (by decide +kernel)
set_option maxRecDepth 100000 in
theorem xf_578860bb : wk_pf 85 68 4 5 0 = true := by decide +kernel
set_option maxRecDepth 100000 in
theorem xg_a05c9dfb : sv_g sg 18 5 = (2147483648, 2147483654) := by decide +kernel
set_option maxRecDepth 100000 in
theorem xg_e86d59c4 : sv_g sg 4 5 = (2147483648, 2147483654) := by decide +kernel
set_option maxRecDepth 100000 in
theorem xd_bc1efbd5 : decode (ia_code 85) 48 = .ok (.aload_n 0, 1) := fdd_d (by decide +kernel)
set_option maxRecDepth 100000 in
theorem xd_1a0d38b1 : decode (ia_code 85) 49 = .ok (.aload_n 1, 1) := fdd_d (by decide +kernel)
set_option maxRecDepth 100000 in
theorem xd_88457819 : decode (ia_code 85) 50 = .ok (.getfield 71, 3) := fdd_d (by decide +kernel)
set_option maxRecDepth 100000 in
theorem xf_8b6f76e4 : wk_gf 85 71 18 6 0 = true := by decide +kernel
set_option maxRecDepth 100000 in
theorem xd_04796273 : decode (ia_code 85) 53 = .ok (.putfield 71, 3) := fdd_d (by decide +kernel)
set_option maxRecDepth 100000 in
theorem xf_ab12ff10 : wk_pf 85 71 4 6 0 = true := by decide +kernel
set_option maxRecDepth 100000 in
theorem xg_0e37d5d0 : sv_g sg 18 6 = (2147483648, 2147483658) := by decide +kernel
set_option maxRecDepth 100000 in
theorem xg_460611ef : sv_g sg 4 6 = (2147483648, 2147483658) := by decide +kernel
set_option maxRecDepth 100000 in
theorem xd_ed28861e : decode (ia_code 85) 56 = .ok (.aload_n 1, 1) := fdd_d (by decide +kernel)
set_option maxRecDepth 100000 in
theorem xd_65ccc16c : decode (ia_code 85) 57 = .ok (.getfield 15, 3) := fdd_d (by decide +kernel)
set_option maxRecDepth 100000 in
theorem xf_ffddefbf : wk_gf 85 15 18 7 (19 + 3) = true := by decide +kernel
set_option maxRecDepth 100000 in
theorem xd_d49c0471 : decode (ia_code 85) 60 = .ok (.iconst 0, 1) := fdd_d (by decide +kernel)
set_option maxRecDepth 100000 in
theorem xd_feef9e28 : decode (ia_code 85) 61 = .ok (.aload_n 0, 1) := fdd_d (by decide +kernel)
set_option maxRecDepth 100000 in
theorem xd_c9adf661 : decode (ia_code 85) 62 = .ok (.getfield 15, 3) := fdd_d (by decide +kernel)
set_option maxRecDepth 100000 in
theorem xf_4830a2fe : wk_gf 85 15 4 7 (5 + 3) = true := by decide +kernel
set_option maxRecDepth 100000 in
theorem xd_9f15f3b1 : decode (ia_code 85) 65 = .ok (.iconst 0, 1) := fdd_d (by decide +kernel)
set_option maxRecDepth 100000 in
theorem xd_c973f46b : decode (ia_code 85) 66 = .ok (.bipush 6, 2) := fdd_d (by decide +kernel)
set_option maxRecDepth 100000 in
theorem xd_b94e89d6 : decode (ia_code 85) 68 = .ok (.invokestatic 74, 3) := fdd_d (by decide +kernel)
set_option maxRecDepth 100000 in
theorem xl_a21f840f : ia_pl (ia_cls 85) 74 = some (3, 0, 0, 0, 826) := by decide +kernel
set_option maxRecDepth 100000 in
theorem xf_9eae36c8 : aw_cpf 5 19 6 16 = true := by decide +kernel
set_option maxRecDepth 100000 in
theorem xf_762edd9e : sv_gr sg 5 = [] := by decide +kernel
set_option maxRecDepth 100000 in
theorem xd_42aad2bf : decode (ia_code 85) 71 = .ok (.aload_n 1, 1) := fdd_d (by decide +kernel)
set_option maxRecDepth 100000 in
theorem xd_eb40bdf7 : decode (ia_code 85) 72 = .ok (.getfield 19, 3) := fdd_d (by decide +kernel)
set_option maxRecDepth 100000 in
theorem xf_27494659 : wk_gf 85 19 18 8 (20 + 3) = true := by decide +kernel
set_option maxRecDepth 100000 in
theorem xd_04661965 : decode (ia_code 85) 75 = .ok (.iconst 0, 1) := fdd_d (by decide +kernel)
set_option maxRecDepth 100000 in
theorem xd_097363a1 : decode (ia_code 85) 76 = .ok (.aload_n 0, 1) := fdd_d (by decide +kernel)
set_option maxRecDepth 100000 in
theorem xd_b5766702 : decode (ia_code 85) 77 = .ok (.getfield 19, 3) := fdd_d (by decide +kernel)
set_option maxRecDepth 100000 in
theorem xf_a82694e1 : wk_gf 85 19 4 8 (6 + 3) = true := by decide +kernel
set_option maxRecDepth 100000 in
theorem xd_39ef352d : decode (ia_code 85) 80 = .ok (.iconst 0, 1) := fdd_d (by decide +kernel)
set_option maxRecDepth 100000 in
theorem xd_db47f72d : decode (ia_code 85) 81 = .ok (.iconst 4, 1) := fdd_d (by decide +kernel)
set_option maxRecDepth 100000 in
theorem xd_60a9aa0d : decode (ia_code 85) 82 = .ok (.invokestatic 74, 3) := fdd_d (by decide +kernel)
set_option maxRecDepth 100000 in
theorem xf_14fe14c8 : aw_cpf 6 20 4 16 = true := by decide +kernel
set_option maxRecDepth 100000 in
theorem xf_f0baaf30 : sv_gr sg 6 = [] := by decide +kernel
set_option maxRecDepth 100000 in
theorem xd_a1e378e5 : decode (ia_code 85) 85 = .ok (.aload_n 1, 1) := fdd_d (by decide +kernel)
set_option maxRecDepth 100000 in
theorem xd_6c53e229 : decode (ia_code 85) 86 = .ok (.getfield 22, 3) := fdd_d (by decide +kernel)
set_option maxRecDepth 100000 in
theorem xf_8ba7e6e2 : wk_gf 85 22 18 9 (21 + 3) = true := by decide +kernel
set_option maxRecDepth 100000 in
theorem xd_978477ed : decode (ia_code 85) 89 = .ok (.iconst 0, 1) := fdd_d (by decide +kernel)
set_option maxRecDepth 100000 in
theorem xd_86897f35 : decode (ia_code 85) 90 = .ok (.aload_n 0, 1) := fdd_d (by decide +kernel)
set_option maxRecDepth 100000 in
theorem xd_451eb816 : decode (ia_code 85) 91 = .ok (.getfield 22, 3) := fdd_d (by decide +kernel)
set_option maxRecDepth 100000 in
theorem xf_92b4c56e : wk_gf 85 22 4 9 (7 + 3) = true := by decide +kernel
set_option maxRecDepth 100000 in
theorem xd_fe3d4cf9 : decode (ia_code 85) 94 = .ok (.iconst 0, 1) := fdd_d (by decide +kernel)
set_option maxRecDepth 100000 in
theorem xd_860b82a3 : decode (ia_code 85) 95 = .ok (.bipush 6, 2) := fdd_d (by decide +kernel)
set_option maxRecDepth 100000 in
theorem xd_68a0f2f0 : decode (ia_code 85) 97 = .ok (.invokestatic 74, 3) := fdd_d (by decide +kernel)
set_option maxRecDepth 100000 in
theorem xf_3f6ce51d : aw_cpf 7 21 6 16 = true := by decide +kernel
set_option maxRecDepth 100000 in
theorem xf_3be67c95 : sv_gr sg 7 = [] := by decide +kernel
set_option maxRecDepth 100000 in
theorem xd_4e134f37 : decode (ia_code 85) 100 = .ok (.aload_n 1, 1) := fdd_d (by decide +kernel)
set_option maxRecDepth 100000 in
theorem xd_45a6f506 : decode (ia_code 85) 101 = .ok (.getfield 25, 3) := fdd_d (by decide +kernel)
set_option maxRecDepth 100000 in
theorem xf_8917ae46 : wk_gf 85 25 18 10 (22 + 3) = true := by decide +kernel
set_option maxRecDepth 100000 in
theorem xd_0be0a9ae : decode (ia_code 85) 104 = .ok (.iconst 0, 1) := fdd_d (by decide +kernel)
set_option maxRecDepth 100000 in
theorem xd_e85c2dc0 : decode (ia_code 85) 105 = .ok (.aload_n 0, 1) := fdd_d (by decide +kernel)
set_option maxRecDepth 100000 in
theorem xd_8bf609ae : decode (ia_code 85) 106 = .ok (.getfield 25, 3) := fdd_d (by decide +kernel)
set_option maxRecDepth 100000 in
theorem xf_9b86501f : wk_gf 85 25 4 10 (8 + 3) = true := by decide +kernel
set_option maxRecDepth 100000 in
theorem xd_f92a786e : decode (ia_code 85) 109 = .ok (.iconst 0, 1) := fdd_d (by decide +kernel)
set_option maxRecDepth 100000 in
theorem xd_a32c7ae0 : decode (ia_code 85) 110 = .ok (.bipush 6, 2) := fdd_d (by decide +kernel)
set_option maxRecDepth 100000 in
theorem xd_008faa78 : decode (ia_code 85) 112 = .ok (.invokestatic 74, 3) := fdd_d (by decide +kernel)
set_option maxRecDepth 100000 in
theorem xf_0c4ceee9 : aw_cpf 8 22 6 16 = true := by decide +kernel
set_option maxRecDepth 100000 in
theorem xf_cab0ce40 : sv_gr sg 8 = [] := by decide +kernel
set_option maxRecDepth 100000 in
theorem xd_54196157 : decode (ia_code 85) 115 = .ok (.aload_n 1, 1) := fdd_d (by decide +kernel)
set_option maxRecDepth 100000 in
theorem xd_a91b4238 : decode (ia_code 85) 116 = .ok (.getfield 29, 3) := fdd_d (by decide +kernel)
set_option maxRecDepth 100000 in
theorem xf_d3c25e35 : wk_gf 85 29 18 11 (23 + 3) = true := by decide +kernel
set_option maxRecDepth 100000 in
theorem xd_625992ba : decode (ia_code 85) 119 = .ok (.iconst 0, 1) := fdd_d (by decide +kernel)
set_option maxRecDepth 100000 in
theorem xd_aa48aa88 : decode (ia_code 85) 120 = .ok (.aload_n 0, 1) := fdd_d (by decide +kernel)
set_option maxRecDepth 100000 in
theorem xd_951c5368 : decode (ia_code 85) 121 = .ok (.getfield 29, 3) := fdd_d (by decide +kernel)
set_option maxRecDepth 100000 in
theorem xf_df7315c6 : wk_gf 85 29 4 11 (9 + 3) = true := by decide +kernel
set_option maxRecDepth 100000 in
theorem xd_e6767a47 : decode (ia_code 85) 124 = .ok (.iconst 0, 1) := fdd_d (by decide +kernel)
set_option maxRecDepth 100000 in
theorem xd_9e40b41d : decode (ia_code 85) 125 = .ok (.bipush 6, 2) := fdd_d (by decide +kernel)
set_option maxRecDepth 100000 in
theorem xd_70473495 : decode (ia_code 85) 127 = .ok (.invokestatic 74, 3) := fdd_d (by decide +kernel)
set_option maxRecDepth 100000 in
theorem xf_7fb2a6fd : aw_cpf 9 23 6 16 = true := by decide +kernel
set_option maxRecDepth 100000 in
theorem xf_01ec1de5 : sv_gr sg 9 = [] := by decide +kernel
set_option maxRecDepth 100000 in
theorem xd_160de61f : decode (ia_code 85) 130 = .ok (.aload_n 1, 1) := fdd_d (by decide +kernel)
set_option maxRecDepth 100000 in
theorem xd_ce8d174b : decode (ia_code 85) 131 = .ok (.getfield 32, 3) := fdd_d (by decide +kernel)
set_option maxRecDepth 100000 in
theorem xf_0a521cd5 : wk_gf 85 32 18 12 (24 + 3) = true := by decide +kernel
set_option maxRecDepth 100000 in
theorem xd_7d059093 : decode (ia_code 85) 134 = .ok (.iconst 0, 1) := fdd_d (by decide +kernel)
set_option maxRecDepth 100000 in
theorem xd_b04284e8 : decode (ia_code 85) 135 = .ok (.aload_n 0, 1) := fdd_d (by decide +kernel)
set_option maxRecDepth 100000 in
theorem xd_00ddebe3 : decode (ia_code 85) 136 = .ok (.getfield 32, 3) := fdd_d (by decide +kernel)
set_option maxRecDepth 100000 in
theorem xf_f431f81b : wk_gf 85 32 4 12 (10 + 3) = true := by decide +kernel
set_option maxRecDepth 100000 in
theorem xd_8fcf4153 : decode (ia_code 85) 139 = .ok (.iconst 0, 1) := fdd_d (by decide +kernel)
set_option maxRecDepth 100000 in
theorem xd_380331a7 : decode (ia_code 85) 140 = .ok (.bipush 6, 2) := fdd_d (by decide +kernel)
set_option maxRecDepth 100000 in
theorem xd_cd6cc550 : decode (ia_code 85) 142 = .ok (.invokestatic 74, 3) := fdd_d (by decide +kernel)
set_option maxRecDepth 100000 in
theorem xf_844013d6 : aw_cpf 10 24 6 16 = true := by decide +kernel
set_option maxRecDepth 100000 in
theorem xf_137d8894 : sv_gr sg 10 = [] := by decide +kernel
set_option maxRecDepth 100000 in
theorem xd_bc3a9a2f : decode (ia_code 85) 145 = .ok (.aload_n 1, 1) := fdd_d (by decide +kernel)
set_option maxRecDepth 100000 in
theorem xd_6a3e4cd5 : decode (ia_code 85) 146 = .ok (.getfield 35, 3) := fdd_d (by decide +kernel)
set_option maxRecDepth 100000 in
theorem xf_26db96bd : wk_gf 85 35 18 13 (25 + 3) = true := by decide +kernel
set_option maxRecDepth 100000 in
theorem xd_f976d9fd : decode (ia_code 85) 149 = .ok (.iconst 0, 1) := fdd_d (by decide +kernel)
set_option maxRecDepth 100000 in
theorem xd_9b509dff : decode (ia_code 85) 150 = .ok (.aload_n 0, 1) := fdd_d (by decide +kernel)
set_option maxRecDepth 100000 in
theorem xd_437316ea : decode (ia_code 85) 151 = .ok (.getfield 35, 3) := fdd_d (by decide +kernel)
set_option maxRecDepth 100000 in
theorem xf_cbd8d49d : wk_gf 85 35 4 13 (11 + 3) = true := by decide +kernel
set_option maxRecDepth 100000 in
theorem xd_90cfe2e9 : decode (ia_code 85) 154 = .ok (.iconst 0, 1) := fdd_d (by decide +kernel)
set_option maxRecDepth 100000 in
theorem xd_726720e9 : decode (ia_code 85) 155 = .ok (.iconst 4, 1) := fdd_d (by decide +kernel)
set_option maxRecDepth 100000 in
theorem xd_a6624489 : decode (ia_code 85) 156 = .ok (.invokestatic 74, 3) := fdd_d (by decide +kernel)
set_option maxRecDepth 100000 in
theorem xf_afd2e203 : aw_cpf 11 25 4 16 = true := by decide +kernel
set_option maxRecDepth 100000 in
theorem xf_d8215b31 : sv_gr sg 11 = [] := by decide +kernel
set_option maxRecDepth 100000 in
theorem xd_3dfa1dbd : decode (ia_code 85) 159 = .ok (.aload_n 1, 1) := fdd_d (by decide +kernel)
set_option maxRecDepth 100000 in
theorem xd_ec3fafad : decode (ia_code 85) 160 = .ok (.getfield 38, 3) := fdd_d (by decide +kernel)
set_option maxRecDepth 100000 in
theorem xf_20158e59 : wk_gf 85 38 18 14 (26 + 3) = true := by decide +kernel
set_option maxRecDepth 100000 in
theorem xd_83f3e594 : decode (ia_code 85) 163 = .ok (.iconst 0, 1) := fdd_d (by decide +kernel)
set_option maxRecDepth 100000 in
theorem xd_c3129544 : decode (ia_code 85) 164 = .ok (.aload_n 0, 1) := fdd_d (by decide +kernel)
set_option maxRecDepth 100000 in
theorem xd_b2097558 : decode (ia_code 85) 165 = .ok (.getfield 38, 3) := fdd_d (by decide +kernel)
set_option maxRecDepth 100000 in
theorem xf_a44a15d8 : wk_gf 85 38 4 14 (12 + 3) = true := by decide +kernel
set_option maxRecDepth 100000 in
theorem xd_03c86ed4 : decode (ia_code 85) 168 = .ok (.iconst 0, 1) := fdd_d (by decide +kernel)
set_option maxRecDepth 100000 in
theorem xd_e160acd4 : decode (ia_code 85) 169 = .ok (.iconst 4, 1) := fdd_d (by decide +kernel)
set_option maxRecDepth 100000 in
theorem xd_4fc25200 : decode (ia_code 85) 170 = .ok (.invokestatic 74, 3) := fdd_d (by decide +kernel)
set_option maxRecDepth 100000 in
theorem xf_3bd03a3f : aw_cpf 12 26 4 16 = true := by decide +kernel
set_option maxRecDepth 100000 in
theorem xf_5eb5299f : sv_gr sg 12 = [] := by decide +kernel
set_option maxRecDepth 100000 in
theorem xd_09ee417d : decode (ia_code 85) 173 = .ok (.aload_n 1, 1) := fdd_d (by decide +kernel)
set_option maxRecDepth 100000 in
theorem xd_e08a1108 : decode (ia_code 85) 174 = .ok (.getfield 41, 3) := fdd_d (by decide +kernel)
set_option maxRecDepth 100000 in
theorem xf_d0f7021a : wk_gf 85 41 18 15 (27 + 3) = true := by decide +kernel
set_option maxRecDepth 100000 in
theorem xd_44219c40 : decode (ia_code 85) 177 = .ok (.iconst 0, 1) := fdd_d (by decide +kernel)
set_option maxRecDepth 100000 in
theorem xd_42d212d6 : decode (ia_code 85) 178 = .ok (.aload_n 0, 1) := fdd_d (by decide +kernel)
set_option maxRecDepth 100000 in
theorem xd_92b7584a : decode (ia_code 85) 179 = .ok (.getfield 41, 3) := fdd_d (by decide +kernel)
set_option maxRecDepth 100000 in
theorem xf_26a8dd70 : wk_gf 85 41 4 15 (13 + 3) = true := by decide +kernel
set_option maxRecDepth 100000 in
theorem xd_79a8b008 : decode (ia_code 85) 182 = .ok (.iconst 0, 1) := fdd_d (by decide +kernel)
set_option maxRecDepth 100000 in
theorem xd_019e7e52 : decode (ia_code 85) 183 = .ok (.bipush 6, 2) := fdd_d (by decide +kernel)
set_option maxRecDepth 100000 in
theorem xd_f6ff5ecc : decode (ia_code 85) 185 = .ok (.invokestatic 74, 3) := fdd_d (by decide +kernel)
set_option maxRecDepth 100000 in
theorem xf_1042cbea : aw_cpf 13 27 6 16 = true := by decide +kernel
set_option maxRecDepth 100000 in
theorem xf_95e9fa3a : sv_gr sg 13 = [] := by decide +kernel
set_option maxRecDepth 100000 in
theorem xd_9ca730af : decode (ia_code 85) 188 = .ok (.aload_n 1, 1) := fdd_d (by decide +kernel)
set_option maxRecDepth 100000 in
theorem xd_d7bd81a0 : decode (ia_code 85) 189 = .ok (.getfield 44, 3) := fdd_d (by decide +kernel)
set_option maxRecDepth 100000 in
theorem xf_3f32c7ec : wk_gf 85 44 18 16 (28 + 3) = true := by decide +kernel
set_option maxRecDepth 100000 in
theorem xd_e2db5adc : decode (ia_code 85) 192 = .ok (.iconst 0, 1) := fdd_d (by decide +kernel)
set_option maxRecDepth 100000 in
theorem xd_56be0623 : decode (ia_code 85) 193 = .ok (.aload_n 0, 1) := fdd_d (by decide +kernel)
set_option maxRecDepth 100000 in
theorem xd_429d6e75 : decode (ia_code 85) 194 = .ok (.getfield 44, 3) := fdd_d (by decide +kernel)
set_option maxRecDepth 100000 in
theorem xf_43c8776c : wk_gf 85 44 4 16 (14 + 3) = true := by decide +kernel
set_option maxRecDepth 100000 in
theorem xd_a952ad1c : decode (ia_code 85) 197 = .ok (.iconst 0, 1) := fdd_d (by decide +kernel)
set_option maxRecDepth 100000 in
theorem xd_a6fa8f7c : decode (ia_code 85) 198 = .ok (.bipush 10, 2) := fdd_d (by decide +kernel)
set_option maxRecDepth 100000 in
theorem xd_e9c8c24b : decode (ia_code 85) 200 = .ok (.invokestatic 74, 3) := fdd_d (by decide +kernel)
set_option maxRecDepth 100000 in
theorem xf_0b90b7f5 : aw_cpf 14 28 10 16 = true := by decide +kernel
set_option maxRecDepth 100000 in
theorem xf_16efb760 : sv_gr sg 14 = sv_gr sg 28 := by decide +kernel
set_option maxRecDepth 100000 in
theorem xd_0d1bc059 : decode (ia_code 85) 203 = .ok (.aload_n 1, 1) := fdd_d (by decide +kernel)
set_option maxRecDepth 100000 in
theorem xd_049db24d : decode (ia_code 85) 204 = .ok (.getfield 47, 3) := fdd_d (by decide +kernel)
set_option maxRecDepth 100000 in
theorem xf_13e7ec17 : wk_gf 85 47 18 17 (29 + 3) = true := by decide +kernel
set_option maxRecDepth 100000 in
theorem xd_6a86adc6 : decode (ia_code 85) 207 = .ok (.iconst 0, 1) := fdd_d (by decide +kernel)
set_option maxRecDepth 100000 in
theorem xd_462793f2 : decode (ia_code 85) 208 = .ok (.aload_n 0, 1) := fdd_d (by decide +kernel)
set_option maxRecDepth 100000 in
theorem xd_76a0fb0f : decode (ia_code 85) 209 = .ok (.getfield 47, 3) := fdd_d (by decide +kernel)
set_option maxRecDepth 100000 in
theorem xf_2080c8ea : wk_gf 85 47 4 17 (15 + 3) = true := by decide +kernel
set_option maxRecDepth 100000 in
theorem xd_ba7cb0d2 : decode (ia_code 85) 212 = .ok (.iconst 0, 1) := fdd_d (by decide +kernel)
set_option maxRecDepth 100000 in
theorem xd_37467f8a : decode (ia_code 85) 213 = .ok (.bipush 10, 2) := fdd_d (by decide +kernel)
set_option maxRecDepth 100000 in
theorem xd_e1c19ab6 : decode (ia_code 85) 215 = .ok (.invokestatic 74, 3) := fdd_d (by decide +kernel)
set_option maxRecDepth 100000 in
theorem xf_11399dc0 : aw_cpf 15 29 10 16 = true := by decide +kernel
set_option maxRecDepth 100000 in
theorem xf_d8135c1e : sv_gr sg 15 = sv_gr sg 29 := by decide +kernel
set_option maxRecDepth 100000 in
theorem xd_fa62df65 : decode (ia_code 85) 218 = .ok (.aload_n 1, 1) := fdd_d (by decide +kernel)
set_option maxRecDepth 100000 in
theorem xd_e8c1522d : decode (ia_code 85) 219 = .ok (.getfield 50, 3) := fdd_d (by decide +kernel)
set_option maxRecDepth 100000 in
theorem xf_3863c9d5 : wk_gf 85 50 18 18 (30 + 3) = true := by decide +kernel
set_option maxRecDepth 100000 in
theorem xd_cc9989ef : decode (ia_code 85) 222 = .ok (.iconst 0, 1) := fdd_d (by decide +kernel)
set_option maxRecDepth 100000 in
theorem xd_e94025e6 : decode (ia_code 85) 223 = .ok (.aload_n 0, 1) := fdd_d (by decide +kernel)
set_option maxRecDepth 100000 in
theorem xd_68abf697 : decode (ia_code 85) 224 = .ok (.getfield 50, 3) := fdd_d (by decide +kernel)
set_option maxRecDepth 100000 in
theorem xf_a5624365 : wk_gf 85 50 4 18 (16 + 3) = true := by decide +kernel
set_option maxRecDepth 100000 in
theorem xd_87107e2f : decode (ia_code 85) 227 = .ok (.iconst 0, 1) := fdd_d (by decide +kernel)
set_option maxRecDepth 100000 in
theorem xd_1904acb9 : decode (ia_code 85) 228 = .ok (.bipush 10, 2) := fdd_d (by decide +kernel)
set_option maxRecDepth 100000 in
theorem xd_ad69e753 : decode (ia_code 85) 230 = .ok (.invokestatic 74, 3) := fdd_d (by decide +kernel)
set_option maxRecDepth 100000 in
theorem xf_550ee2ec : aw_cpf 16 30 10 16 = true := by decide +kernel
set_option maxRecDepth 100000 in
theorem xf_c5246b89 : sv_gr sg 16 = [] := by decide +kernel
set_option maxRecDepth 100000 in
theorem xd_55056971 : decode (ia_code 85) 233 = .ok (.aload_n 1, 1) := fdd_d (by decide +kernel)
set_option maxRecDepth 100000 in
theorem xd_c8162ad0 : decode (ia_code 85) 234 = .ok (.getfield 53, 3) := fdd_d (by decide +kernel)
set_option maxRecDepth 100000 in
theorem xf_14b6e22e : wk_gf 85 53 18 19 (31 + 3) = true := by decide +kernel
set_option maxRecDepth 100000 in
theorem xd_1c6394fb : decode (ia_code 85) 237 = .ok (.iconst 0, 1) := fdd_d (by decide +kernel)
set_option maxRecDepth 100000 in
theorem xd_1e393ada : decode (ia_code 85) 238 = .ok (.aload_n 0, 1) := fdd_d (by decide +kernel)
set_option maxRecDepth 100000 in
theorem xd_ba2b6392 : decode (ia_code 85) 239 = .ok (.getfield 53, 3) := fdd_d (by decide +kernel)
set_option maxRecDepth 100000 in
theorem xf_c62afce3 : wk_gf 85 53 4 19 (17 + 3) = true := by decide +kernel
set_option maxRecDepth 100000 in
theorem xd_2153fb95 : decode (ia_code 85) 242 = .ok (.iconst 0, 1) := fdd_d (by decide +kernel)
set_option maxRecDepth 100000 in
theorem xd_df6584f2 : decode (ia_code 85) 243 = .ok (.bipush 10, 2) := fdd_d (by decide +kernel)
set_option maxRecDepth 100000 in
theorem xd_2c22f59e : decode (ia_code 85) 245 = .ok (.invokestatic 74, 3) := fdd_d (by decide +kernel)
set_option maxRecDepth 100000 in
theorem xf_4fa7c8d9 : aw_cpf 17 31 10 16 = true := by decide +kernel
set_option maxRecDepth 100000 in
theorem xf_0e78b82c : sv_gr sg 17 = [] := by decide +kernel
set_option maxRecDepth 100000 in
theorem xd_8a066d7b : decode (ia_code 85) 248 = .ok (.return_, 1) := fdd_d (by decide +kernel)
set_option maxRecDepth 100000 in
theorem xr_59ac3bf1 : ia_ret 85 = none := by decide +kernel
set_option maxRecDepth 100000 in
theorem xm_6111ea63 : ia_maxL 85 = 2 := by decide +kernel
set_option maxRecDepth 100000 in
theorem xf_a82c48ab : wk_gf 85 9 4 0 0 = true := by decide +kernel
set_option maxRecDepth 100000 in
theorem xf_910c926e : wk_pf 85 9 131 0 0 = true := by decide +kernel
set_option maxRecDepth 100000 in
theorem xg_3d5e8930 : sv_g sg 131 0 = sv_top := by decide +kernel
set_option maxRecDepth 100000 in
theorem xf_a6866b8c : wk_gf 85 56 4 1 0 = true := by decide +kernel
set_option maxRecDepth 100000 in
theorem xf_262c1261 : wk_pf 85 56 131 1 0 = true := by decide +kernel
set_option maxRecDepth 100000 in
theorem xg_d29ce20e : sv_g sg 131 1 = sv_top := by decide +kernel
set_option maxRecDepth 100000 in
theorem xf_1b256479 : wk_gf 85 59 4 2 0 = true := by decide +kernel
set_option maxRecDepth 100000 in
theorem xf_43f1ce58 : wk_pf 85 59 131 2 0 = true := by decide +kernel
set_option maxRecDepth 100000 in
theorem xg_39ab590d : sv_g sg 131 2 = sv_top := by decide +kernel
set_option maxRecDepth 100000 in
theorem xf_aaa25ed3 : wk_gf 85 62 4 3 0 = true := by decide +kernel
set_option maxRecDepth 100000 in
theorem xf_a572d55f : wk_pf 85 62 131 3 0 = true := by decide +kernel
set_option maxRecDepth 100000 in
theorem xg_46b7462b : sv_g sg 131 3 = (2147483648, 2147483654) := by decide +kernel
set_option maxRecDepth 100000 in
theorem xf_2db3ef6a : wk_gf 85 65 4 4 0 = true := by decide +kernel
set_option maxRecDepth 100000 in
theorem xf_ba573653 : wk_pf 85 65 131 4 0 = true := by decide +kernel
set_option maxRecDepth 100000 in
theorem xg_14e412fe : sv_g sg 131 4 = (2147483648, 2147483652) := by decide +kernel
set_option maxRecDepth 100000 in
theorem xf_758bf40f : wk_gf 85 68 4 5 0 = true := by decide +kernel
set_option maxRecDepth 100000 in
theorem xf_5cdf1f34 : wk_pf 85 68 131 5 0 = true := by decide +kernel
set_option maxRecDepth 100000 in
theorem xg_430b4865 : sv_g sg 131 5 = (2147483648, 2147483654) := by decide +kernel
set_option maxRecDepth 100000 in
theorem xf_89116ba4 : wk_gf 85 71 4 6 0 = true := by decide +kernel
set_option maxRecDepth 100000 in
theorem xf_ed3561aa : wk_pf 85 71 131 6 0 = true := by decide +kernel
set_option maxRecDepth 100000 in
theorem xg_ed60004e : sv_g sg 131 6 = (2147483648, 2147483658) := by decide +kernel
set_option maxRecDepth 100000 in
theorem xf_45541971 : wk_gf 85 15 131 7 (132 + 3) = true := by decide +kernel
set_option maxRecDepth 100000 in
theorem xf_1b26a8be : aw_cpf 132 5 6 16 = true := by decide +kernel
set_option maxRecDepth 100000 in
theorem xf_7ba2ad5a : sv_gr sg 132 = [] := by decide +kernel
set_option maxRecDepth 100000 in
theorem xf_d5b6c67d : wk_gf 85 19 131 8 (133 + 3) = true := by decide +kernel
set_option maxRecDepth 100000 in
theorem xf_477ba659 : aw_cpf 133 6 4 16 = true := by decide +kernel
set_option maxRecDepth 100000 in
theorem xf_b0fe7eff : sv_gr sg 133 = [] := by decide +kernel
set_option maxRecDepth 100000 in
theorem xf_f8695501 : wk_gf 85 22 131 9 (134 + 3) = true := by decide +kernel
set_option maxRecDepth 100000 in
theorem xf_5980c907 : aw_cpf 134 7 6 16 = true := by decide +kernel
set_option maxRecDepth 100000 in
theorem xf_adfb4e47 : sv_gr sg 134 = [] := by decide +kernel
set_option maxRecDepth 100000 in
theorem xf_6ee7fbc7 : wk_gf 85 25 131 10 (135 + 3) = true := by decide +kernel
set_option maxRecDepth 100000 in
theorem xf_c70bc7da : aw_cpf 135 8 6 16 = true := by decide +kernel
set_option maxRecDepth 100000 in
theorem xf_66a79de2 : sv_gr sg 135 = [] := by decide +kernel
set_option maxRecDepth 100000 in
theorem xf_ebc9f8a4 : wk_gf 85 29 131 11 (136 + 3) = true := by decide +kernel
set_option maxRecDepth 100000 in
theorem xf_0be07426 : aw_cpf 136 9 6 16 = true := by decide +kernel
set_option maxRecDepth 100000 in
theorem xf_e033ef4c : sv_gr sg 136 = [] := by decide +kernel
set_option maxRecDepth 100000 in
theorem xf_22227f30 : wk_gf 85 32 131 12 (137 + 3) = true := by decide +kernel
set_option maxRecDepth 100000 in
theorem xf_b96111c1 : aw_cpf 137 10 6 16 = true := by decide +kernel
set_option maxRecDepth 100000 in
theorem xf_2b6f3ce9 : sv_gr sg 137 = [] := by decide +kernel
set_option maxRecDepth 100000 in
theorem xf_2450e04c : wk_gf 85 35 131 13 (138 + 3) = true := by decide +kernel
set_option maxRecDepth 100000 in
theorem xf_b27116bf : aw_cpf 138 11 4 16 = true := by decide +kernel
set_option maxRecDepth 100000 in
theorem xf_da398e3c : sv_gr sg 138 = [] := by decide +kernel
set_option maxRecDepth 100000 in
theorem xf_6ad57aef : wk_gf 85 38 131 14 (139 + 3) = true := by decide +kernel
set_option maxRecDepth 100000 in
theorem xf_a1d3ebe0 : aw_cpf 139 12 4 16 = true := by decide +kernel
set_option maxRecDepth 100000 in
theorem xf_11655d99 : sv_gr sg 139 = [] := by decide +kernel
set_option maxRecDepth 100000 in
theorem xf_369c14b9 : wk_gf 85 41 131 15 (140 + 3) = true := by decide +kernel
set_option maxRecDepth 100000 in
theorem xf_d9c0f931 : aw_cpf 140 13 6 16 = true := by decide +kernel
set_option maxRecDepth 100000 in
theorem xf_f3cd32df : sv_gr sg 140 = [] := by decide +kernel
set_option maxRecDepth 100000 in
theorem xf_5fbacaab : wk_gf 85 44 131 16 (141 + 3) = true := by decide +kernel
set_option maxRecDepth 100000 in
theorem xf_8e3597a5 : aw_cpf 141 14 10 16 = true := by decide +kernel
set_option maxRecDepth 100000 in
theorem xf_2a331594 : sv_gr sg 141 = sv_gr sg 14 := by decide +kernel
set_option maxRecDepth 100000 in
theorem xf_38cfa6d7 : wk_gf 85 47 131 17 (142 + 3) = true := by decide +kernel
set_option maxRecDepth 100000 in
theorem xf_40a02d57 : aw_cpf 142 15 10 16 = true := by decide +kernel
set_option maxRecDepth 100000 in
theorem xf_4c494f7b : sv_gr sg 142 = sv_gr sg 15 := by decide +kernel
set_option maxRecDepth 100000 in
theorem xf_3a6b8105 : wk_gf 85 50 131 18 (143 + 3) = true := by decide +kernel
set_option maxRecDepth 100000 in
theorem xf_bb67c3cf : aw_cpf 143 16 10 16 = true := by decide +kernel
set_option maxRecDepth 100000 in
theorem xf_75594071 : sv_gr sg 143 = [] := by decide +kernel
set_option maxRecDepth 100000 in
theorem xf_9da787ef : wk_gf 85 53 131 19 (144 + 3) = true := by decide +kernel
set_option maxRecDepth 100000 in
theorem xf_06fa5ef2 : aw_cpf 144 17 10 16 = true := by decide +kernel
set_option maxRecDepth 100000 in
theorem xf_685c70c9 : sv_gr sg 144 = [] := by decide +kernel
set_option maxRecDepth 100000 in
theorem xf_ac407722 : wk_pf 85 9 158 0 0 = true := by decide +kernel
set_option maxRecDepth 100000 in
theorem xg_00126c7c : sv_g sg 158 0 = sv_top := by decide +kernel
set_option maxRecDepth 100000 in
theorem xf_1b60f72d : wk_pf 85 56 158 1 0 = true := by decide +kernel
set_option maxRecDepth 100000 in
theorem xg_efd00742 : sv_g sg 158 1 = sv_top := by decide +kernel
set_option maxRecDepth 100000 in
theorem xf_7ebd2b14 : wk_pf 85 59 158 2 0 = true := by decide +kernel
set_option maxRecDepth 100000 in
theorem xg_04e7bc41 : sv_g sg 158 2 = sv_top := by decide +kernel
set_option maxRecDepth 100000 in
theorem xf_983e3013 : wk_pf 85 62 158 3 0 = true := by decide +kernel
set_option maxRecDepth 100000 in
theorem xg_64f1c9c4 : sv_g sg 158 3 = (2147483648, 2147483654) := by decide +kernel
set_option maxRecDepth 100000 in
theorem xf_871bd31f : wk_pf 85 65 158 4 0 = true := by decide +kernel
set_option maxRecDepth 100000 in
theorem xg_36a29d11 : sv_g sg 158 4 = (2147483648, 2147483652) := by decide +kernel
set_option maxRecDepth 100000 in
theorem xf_6193fa78 : wk_pf 85 68 158 5 0 = true := by decide +kernel
set_option maxRecDepth 100000 in
theorem xg_614dc78a : sv_g sg 158 5 = (2147483648, 2147483654) := by decide +kernel
set_option maxRecDepth 100000 in
theorem xf_d07984e6 : wk_pf 85 71 158 6 0 = true := by decide +kernel
set_option maxRecDepth 100000 in
theorem xg_cf268fa1 : sv_g sg 158 6 = (2147483648, 2147483658) := by decide +kernel
set_option maxRecDepth 100000 in
theorem xf_54de0556 : wk_gf 85 15 158 7 (159 + 3) = true := by decide +kernel
set_option maxRecDepth 100000 in
theorem xf_964367a4 : aw_cpf 159 5 6 16 = true := by decide +kernel
set_option maxRecDepth 100000 in
theorem xf_72b568a3 : sv_gr sg 159 = [] := by decide +kernel
set_option maxRecDepth 100000 in
theorem xf_e25e2cec : wk_gf 85 19 158 8 (160 + 3) = true := by decide +kernel
set_option maxRecDepth 100000 in
theorem xf_2c5f1136 : aw_cpf 160 6 4 16 = true := by decide +kernel
set_option maxRecDepth 100000 in
theorem xf_645223f6 : sv_gr sg 160 = [] := by decide +kernel
set_option maxRecDepth 100000 in
theorem xf_6f64604d : wk_gf 85 22 158 9 (161 + 3) = true := by decide +kernel
set_option maxRecDepth 100000 in
theorem xf_105eaa9a : aw_cpf 161 7 6 16 = true := by decide +kernel
set_option maxRecDepth 100000 in
theorem xf_af0ef053 : sv_gr sg 161 = [] := by decide +kernel
set_option maxRecDepth 100000 in
theorem xf_5fee439a : wk_gf 85 25 158 10 (162 + 3) = true := by decide +kernel
set_option maxRecDepth 100000 in
theorem xf_265315d6 : aw_cpf 162 8 6 16 = true := by decide +kernel
set_option maxRecDepth 100000 in
theorem xf_299a82fd : sv_gr sg 162 = [] := by decide +kernel
set_option maxRecDepth 100000 in
theorem xf_ba9cf5b2 : wk_gf 85 29 158 11 (163 + 3) = true := by decide +kernel
set_option maxRecDepth 100000 in
theorem xf_423e17bb : aw_cpf 163 9 6 16 = true := by decide +kernel
set_option maxRecDepth 100000 in
theorem xf_e2c65158 : sv_gr sg 163 = [] := by decide +kernel
set_option maxRecDepth 100000 in
theorem xf_d392adfb : wk_gf 85 32 158 12 (164 + 3) = true := by decide +kernel
set_option maxRecDepth 100000 in
theorem xf_640749bf : aw_cpf 164 10 6 16 = true := by decide +kernel
set_option maxRecDepth 100000 in
theorem xf_ffc361e0 : sv_gr sg 164 = [] := by decide +kernel
set_option maxRecDepth 100000 in
theorem xf_2f063e37 : wk_gf 85 35 158 13 (165 + 3) = true := by decide +kernel
set_option maxRecDepth 100000 in
theorem xf_4f95b86a : aw_cpf 165 11 4 16 = true := by decide +kernel
set_option maxRecDepth 100000 in
theorem xf_349fb245 : sv_gr sg 165 = [] := by decide +kernel
set_option maxRecDepth 100000 in
theorem xf_01df11df : wk_gf 85 38 158 14 (166 + 3) = true := by decide +kernel
set_option maxRecDepth 100000 in
theorem xf_db976056 : aw_cpf 166 12 4 16 = true := by decide +kernel
set_option maxRecDepth 100000 in
theorem xf_b20bc0eb : sv_gr sg 166 = [] := by decide +kernel
set_option maxRecDepth 100000 in
theorem xf_62580624 : wk_gf 85 41 158 15 (167 + 3) = true := by decide +kernel
set_option maxRecDepth 100000 in
theorem xf_f0059183 : aw_cpf 167 13 6 16 = true := by decide +kernel
set_option maxRecDepth 100000 in
theorem xf_7957134e : sv_gr sg 167 = [] := by decide +kernel
set_option maxRecDepth 100000 in
theorem xf_f198d486 : wk_gf 85 44 158 16 (168 + 3) = true := by decide +kernel
set_option maxRecDepth 100000 in
theorem xf_ea5778fb : aw_cpf 168 14 10 16 = true := by decide +kernel
set_option maxRecDepth 100000 in
theorem xf_dbe12798 : sv_gr sg 168 = sv_gr sg 14 := by decide +kernel
set_option maxRecDepth 100000 in
theorem xf_f6b10db1 : wk_gf 85 47 158 17 (169 + 3) = true := by decide +kernel
set_option maxRecDepth 100000 in
theorem xf_f0fe52ce : aw_cpf 169 15 10 16 = true := by decide +kernel
set_option maxRecDepth 100000 in
theorem xf_151dcce6 : sv_gr sg 169 = sv_gr sg 15 := by decide +kernel
set_option maxRecDepth 100000 in
theorem xf_33191878 : wk_gf 85 50 158 18 (170 + 3) = true := by decide +kernel
set_option maxRecDepth 100000 in
theorem xf_027b4529 : aw_cpf 170 16 10 16 = true := by decide +kernel
set_option maxRecDepth 100000 in
theorem xf_c2252842 : sv_gr sg 170 = [] := by decide +kernel
set_option maxRecDepth 100000 in
theorem xf_3430c14f : wk_gf 85 53 158 19 (171 + 3) = true := by decide +kernel
set_option maxRecDepth 100000 in
theorem xf_18d26f1c : aw_cpf 171 17 10 16 = true := by decide +kernel
set_option maxRecDepth 100000 in
theorem xf_0979fbe7 : sv_gr sg 171 = [] := by decide +kernel
set_option maxRecDepth 100000 in
theorem xf_5d22e66f : wk_gf 85 9 131 0 0 = true := by decide +kernel
set_option maxRecDepth 100000 in
theorem xf_51e70c83 : wk_gf 85 56 131 1 0 = true := by decide +kernel
set_option maxRecDepth 100000 in
theorem xf_343ad0ba : wk_gf 85 59 131 2 0 = true := by decide +kernel
set_option maxRecDepth 100000 in
theorem xf_d2b9cbbd : wk_gf 85 62 131 3 0 = true := by decide +kernel
set_option maxRecDepth 100000 in
theorem xf_cd9c28b1 : wk_gf 85 65 131 4 0 = true := by decide +kernel
set_option maxRecDepth 100000 in
theorem xf_2b1401d6 : wk_gf 85 68 131 5 0 = true := by decide +kernel
set_option maxRecDepth 100000 in
theorem xf_9afe7f48 : wk_gf 85 71 131 6 0 = true := by decide +kernel
set_option maxRecDepth 100000 in
theorem xf_d11c708b : aw_cpf 5 132 6 16 = true := by decide +kernel
set_option maxRecDepth 100000 in
theorem xf_077c4b4b : aw_cpf 6 133 4 16 = true := by decide +kernel
set_option maxRecDepth 100000 in
theorem xf_a5c53f91 : aw_cpf 7 134 6 16 = true := by decide +kernel
set_option maxRecDepth 100000 in
theorem xf_bed1d5c1 : aw_cpf 8 135 6 16 = true := by decide +kernel
set_option maxRecDepth 100000 in
theorem xf_84bd724c : aw_cpf 9 136 6 16 = true := by decide +kernel
set_option maxRecDepth 100000 in
theorem xf_90a10afc : aw_cpf 10 137 6 16 = true := by decide +kernel
set_option maxRecDepth 100000 in
theorem xf_681bad4b : aw_cpf 11 138 4 16 = true := by decide +kernel
set_option maxRecDepth 100000 in
theorem xf_e6172f4a : aw_cpf 12 139 4 16 = true := by decide +kernel
set_option maxRecDepth 100000 in
theorem xf_db85fde0 : aw_cpf 13 140 6 16 = true := by decide +kernel
set_option maxRecDepth 100000 in
theorem xf_e1a9ba72 : aw_cpf 14 141 10 16 = true := by decide +kernel
set_option maxRecDepth 100000 in
theorem xf_608b900d : sv_gr sg 14 = sv_gr sg 141 := by decide +kernel
set_option maxRecDepth 100000 in
theorem xf_729a2948 : aw_cpf 15 142 10 16 = true := by decide +kernel
set_option maxRecDepth 100000 in
theorem xf_57ea5026 : sv_gr sg 15 = sv_gr sg 142 := by decide +kernel
set_option maxRecDepth 100000 in
theorem xf_0513155c : aw_cpf 16 143 10 16 = true := by decide +kernel
set_option maxRecDepth 100000 in
theorem xf_8f8c097d : aw_cpf 17 144 10 16 = true := by decide +kernel
set_option maxRecDepth 100000 in
theorem xf_606e0323 : wk_gf 85 9 158 0 0 = true := by decide +kernel
set_option maxRecDepth 100000 in
theorem xf_6cabe9cf : wk_gf 85 56 158 1 0 = true := by decide +kernel
set_option maxRecDepth 100000 in
theorem xf_097635f6 : wk_gf 85 59 158 2 0 = true := by decide +kernel
set_option maxRecDepth 100000 in
theorem xf_eff52ef1 : wk_gf 85 62 158 3 0 = true := by decide +kernel
set_option maxRecDepth 100000 in
theorem xf_f0d0cdfd : wk_gf 85 65 158 4 0 = true := by decide +kernel
set_option maxRecDepth 100000 in
theorem xf_1658e49a : wk_gf 85 68 158 5 0 = true := by decide +kernel
set_option maxRecDepth 100000 in
theorem xf_a7b29a04 : wk_gf 85 71 158 6 0 = true := by decide +kernel
set_option maxRecDepth 100000 in
theorem xf_ce17849e : aw_cpf 5 159 6 16 = true := by decide +kernel
set_option maxRecDepth 100000 in
theorem xf_3e1549e8 : aw_cpf 6 160 4 16 = true := by decide +kernel
set_option maxRecDepth 100000 in
theorem xf_3c49e2ef : aw_cpf 7 161 6 16 = true := by decide +kernel
set_option maxRecDepth 100000 in
theorem xf_4701bdf4 : aw_cpf 8 162 6 16 = true := by decide +kernel
set_option maxRecDepth 100000 in
theorem xf_1d31af32 : aw_cpf 9 163 6 16 = true := by decide +kernel
set_option maxRecDepth 100000 in
theorem xf_a9c8085f : aw_cpf 10 164 6 16 = true := by decide +kernel
set_option maxRecDepth 100000 in
theorem xf_ab94a358 : aw_cpf 11 165 4 16 = true := by decide +kernel
set_option maxRecDepth 100000 in
theorem xf_45c49412 : aw_cpf 12 166 4 16 = true := by decide +kernel
set_option maxRecDepth 100000 in
theorem xf_47983f15 : aw_cpf 13 167 6 16 = true := by decide +kernel
set_option maxRecDepth 100000 in
theorem xf_e779f4a3 : aw_cpf 14 168 10 16 = true := by decide +kernel
set_option maxRecDepth 100000 in
theorem xf_2b614a2b : sv_gr sg 14 = sv_gr sg 168 := by decide +kernel
set_option maxRecDepth 100000 in
theorem xf_9524a334 : aw_cpf 15 169 10 16 = true := by decide +kernel
set_option maxRecDepth 100000 in
theorem xf_f20eeb2c : sv_gr sg 15 = sv_gr sg 169 := by decide +kernel
set_option maxRecDepth 100000 in
theorem xf_680f5afe : aw_cpf 16 170 10 16 = true := by decide +kernel
set_option maxRecDepth 100000 in
theorem xf_1a520d69 : aw_cpf 17 171 10 16 = true := by decide +kernel
set_option maxRecDepth 100000 in
theorem xd_44488463 : decode (ia_code 65) 0 = .ok (.aload_n 0, 1) := fdd_d (by decide +kernel)
set_option maxRecDepth 100000 in
theorem xd_e25b4707 : decode (ia_code 65) 1 = .ok (.aload_n 1, 1) := fdd_d (by decide +kernel)
set_option maxRecDepth 100000 in
theorem xd_393de862 : decode (ia_code 65) 2 = .ok (.getfield 24, 3) := fdd_d (by decide +kernel)
set_option maxRecDepth 100000 in
theorem xf_60b3c0b9 : wk_gf 65 24 111 0 0 = true := by decide +kernel
set_option maxRecDepth 100000 in
theorem xd_4ebcb8f3 : decode (ia_code 65) 5 = .ok (.putfield 24, 3) := fdd_d (by decide +kernel)
set_option maxRecDepth 100000 in
theorem xf_be76ee51 : wk_pf 65 24 106 0 0 = true := by decide +kernel
set_option maxRecDepth 100000 in
theorem xg_5d023c7b : sv_g sg 111 0 = sv_top := by decide +kernel
set_option maxRecDepth 100000 in
theorem xg_f40c0c71 : sv_g sg 106 0 = sv_top := by decide +kernel
set_option maxRecDepth 100000 in
theorem xd_44f1c745 : decode (ia_code 65) 8 = .ok (.aload_n 0, 1) := fdd_d (by decide +kernel)
set_option maxRecDepth 100000 in
theorem xd_e2e20421 : decode (ia_code 65) 9 = .ok (.aload_n 1, 1) := fdd_d (by decide +kernel)
set_option maxRecDepth 100000 in
theorem xd_4e384934 : decode (ia_code 65) 10 = .ok (.getfield 28, 3) := fdd_d (by decide +kernel)
set_option maxRecDepth 100000 in
theorem xf_2853784f : wk_gf 65 28 111 1 0 = true := by decide +kernel
set_option maxRecDepth 100000 in
theorem xd_c204535e : decode (ia_code 65) 13 = .ok (.putfield 28, 3) := fdd_d (by decide +kernel)
set_option maxRecDepth 100000 in
theorem xf_f69656a7 : wk_pf 65 28 106 1 0 = true := by decide +kernel
set_option maxRecDepth 100000 in
theorem xg_fc7eb1ec : sv_g sg 111 1 = (2147483648, 2147483688) := by decide +kernel
set_option maxRecDepth 100000 in
theorem xg_47bbf005 : sv_g sg 106 1 = (2147483648, 2147483688) := by decide +kernel
set_option maxRecDepth 100000 in
theorem xd_8c3dfee7 : decode (ia_code 65) 16 = .ok (.aload_n 1, 1) := fdd_d (by decide +kernel)
set_option maxRecDepth 100000 in
theorem xd_0beca543 : decode (ia_code 65) 17 = .ok (.getfield 11, 3) := fdd_d (by decide +kernel)
set_option maxRecDepth 100000 in
theorem xf_c511c5bf : wk_gf 65 11 111 2 (112 + 3) = true := by decide +kernel
set_option maxRecDepth 100000 in
theorem xd_aa1b2eaf : decode (ia_code 65) 20 = .ok (.iconst 0, 1) := fdd_d (by decide +kernel)
set_option maxRecDepth 100000 in
theorem xd_9ffae6d1 : decode (ia_code 65) 21 = .ok (.aload_n 0, 1) := fdd_d (by decide +kernel)
set_option maxRecDepth 100000 in
theorem xd_a78d924e : decode (ia_code 65) 22 = .ok (.getfield 11, 3) := fdd_d (by decide +kernel)
set_option maxRecDepth 100000 in
theorem xf_3bafb2d7 : wk_gf 65 11 106 2 (107 + 3) = true := by decide +kernel
set_option maxRecDepth 100000 in
theorem xd_e192d96f : decode (ia_code 65) 25 = .ok (.iconst 0, 1) := fdd_d (by decide +kernel)
set_option maxRecDepth 100000 in
theorem xd_3f961c88 : decode (ia_code 65) 26 = .ok (.bipush 40, 2) := fdd_d (by decide +kernel)
set_option maxRecDepth 100000 in
theorem xd_3fd2a1d5 : decode (ia_code 65) 28 = .ok (.invokestatic 31, 3) := fdd_d (by decide +kernel)
set_option maxRecDepth 100000 in
theorem xl_40d6e26e : ia_pl (ia_cls 65) 31 = some (3, 0, 0, 0, 1318) := by decide +kernel
set_option maxRecDepth 100000 in
theorem xf_893659ea : aw_cpf 107 112 40 48 = true := by decide +kernel
set_option maxRecDepth 100000 in
theorem xf_1a872674 : sv_gr sg 107 = [] := by decide +kernel
set_option maxRecDepth 100000 in
theorem xd_23bfaa46 : decode (ia_code 65) 31 = .ok (.aload_n 1, 1) := fdd_d (by decide +kernel)
set_option maxRecDepth 100000 in
theorem xd_b5109219 : decode (ia_code 65) 32 = .ok (.getfield 15, 3) := fdd_d (by decide +kernel)
set_option maxRecDepth 100000 in
theorem xf_9ed33484 : wk_gf 65 15 111 3 (113 + 3) = true := by decide +kernel
set_option maxRecDepth 100000 in
theorem xd_7ae133bb : decode (ia_code 65) 35 = .ok (.iconst 0, 1) := fdd_d (by decide +kernel)
set_option maxRecDepth 100000 in
theorem xd_68661b58 : decode (ia_code 65) 36 = .ok (.aload_n 0, 1) := fdd_d (by decide +kernel)
set_option maxRecDepth 100000 in
theorem xd_eb2648ec : decode (ia_code 65) 37 = .ok (.getfield 15, 3) := fdd_d (by decide +kernel)
set_option maxRecDepth 100000 in
theorem xf_9a8b4f5c : wk_gf 65 15 106 3 (108 + 3) = true := by decide +kernel
set_option maxRecDepth 100000 in
theorem xd_47d15cd5 : decode (ia_code 65) 40 = .ok (.iconst 0, 1) := fdd_d (by decide +kernel)
set_option maxRecDepth 100000 in
theorem xd_f912d676 : decode (ia_code 65) 41 = .ok (.bipush 40, 2) := fdd_d (by decide +kernel)
set_option maxRecDepth 100000 in
theorem xd_bd44452b : decode (ia_code 65) 43 = .ok (.invokestatic 31, 3) := fdd_d (by decide +kernel)
set_option maxRecDepth 100000 in
theorem xf_e2461cf4 : aw_cpf 108 113 40 48 = true := by decide +kernel
set_option maxRecDepth 100000 in
theorem xf_ebd194a1 : sv_gr sg 108 = [] := by decide +kernel
set_option maxRecDepth 100000 in
theorem xd_641e059f : decode (ia_code 65) 46 = .ok (.aload_n 1, 1) := fdd_d (by decide +kernel)
set_option maxRecDepth 100000 in
theorem xd_cb75f77b : decode (ia_code 65) 47 = .ok (.getfield 18, 3) := fdd_d (by decide +kernel)
set_option maxRecDepth 100000 in
theorem xf_38a0ff7e : wk_gf 65 18 111 4 (114 + 3) = true := by decide +kernel
set_option maxRecDepth 100000 in
theorem xd_dca2b601 : decode (ia_code 65) 50 = .ok (.iconst 0, 1) := fdd_d (by decide +kernel)
set_option maxRecDepth 100000 in
theorem xd_aee2d1a6 : decode (ia_code 65) 51 = .ok (.aload_n 0, 1) := fdd_d (by decide +kernel)
set_option maxRecDepth 100000 in
theorem xd_725e8b19 : decode (ia_code 65) 52 = .ok (.getfield 18, 3) := fdd_d (by decide +kernel)
set_option maxRecDepth 100000 in
theorem xf_9c1d5b7b : wk_gf 65 18 106 4 (109 + 3) = true := by decide +kernel
set_option maxRecDepth 100000 in
theorem xd_972b41c1 : decode (ia_code 65) 55 = .ok (.iconst 0, 1) := fdd_d (by decide +kernel)
set_option maxRecDepth 100000 in
theorem xd_0e8e2bff : decode (ia_code 65) 56 = .ok (.bipush 40, 2) := fdd_d (by decide +kernel)
set_option maxRecDepth 100000 in
theorem xd_8af008ed : decode (ia_code 65) 58 = .ok (.invokestatic 31, 3) := fdd_d (by decide +kernel)
set_option maxRecDepth 100000 in
theorem xf_68d900d5 : aw_cpf 109 114 40 48 = true := by decide +kernel
set_option maxRecDepth 100000 in
theorem xf_208d4704 : sv_gr sg 109 = [] := by decide +kernel
set_option maxRecDepth 100000 in
theorem xd_7e26a5b4 : decode (ia_code 65) 61 = .ok (.return_, 1) := fdd_d (by decide +kernel)
set_option maxRecDepth 100000 in
theorem xr_916ee063 : ia_ret 65 = none := by decide +kernel
set_option maxRecDepth 100000 in
theorem xm_5b1b8b13 : ia_maxL 65 = 2 := by decide +kernel
set_option maxRecDepth 100000 in
theorem xf_c9bdf0b3 : wk_gf 65 24 106 0 0 = true := by decide +kernel
set_option maxRecDepth 100000 in
theorem xf_a05f663d : wk_pf 65 24 152 0 0 = true := by decide +kernel
set_option maxRecDepth 100000 in
theorem xg_ea25841d : sv_g sg 152 0 = sv_top := by decide +kernel
set_option maxRecDepth 100000 in
theorem xf_815d4845 : wk_gf 65 28 106 1 0 = true := by decide +kernel
set_option maxRecDepth 100000 in
theorem xf_e8bfdecb : wk_pf 65 28 152 1 0 = true := by decide +kernel
set_option maxRecDepth 100000 in
theorem xg_834037b0 : sv_g sg 152 1 = (2147483648, 2147483688) := by decide +kernel
set_option maxRecDepth 100000 in
theorem xf_bc7bda50 : wk_gf 65 11 152 2 (153 + 3) = true := by decide +kernel
set_option maxRecDepth 100000 in
theorem xf_814cb6d3 : aw_cpf 153 107 40 48 = true := by decide +kernel
set_option maxRecDepth 100000 in
theorem xf_d32e4bc5 : sv_gr sg 153 = [] := by decide +kernel
set_option maxRecDepth 100000 in
theorem xf_475cf4b6 : wk_gf 65 15 152 3 (154 + 3) = true := by decide +kernel
set_option maxRecDepth 100000 in
theorem xf_36f60841 : aw_cpf 154 108 40 48 = true := by decide +kernel
set_option maxRecDepth 100000 in
theorem xf_ce2b7b7d : sv_gr sg 154 = [] := by decide +kernel
set_option maxRecDepth 100000 in
theorem xf_41cae091 : wk_gf 65 18 152 4 (155 + 3) = true := by decide +kernel
set_option maxRecDepth 100000 in
theorem xf_44ab5fd6 : aw_cpf 155 109 40 48 = true := by decide +kernel
set_option maxRecDepth 100000 in
theorem xf_0577a8d8 : sv_gr sg 155 = [] := by decide +kernel
set_option maxRecDepth 100000 in
theorem xf_b1917778 : wk_pf 65 24 179 0 0 = true := by decide +kernel
set_option maxRecDepth 100000 in
theorem xg_fbeb9558 : sv_g sg 179 0 = sv_top := by decide +kernel
set_option maxRecDepth 100000 in
theorem xf_f971cf8e : wk_pf 65 28 179 1 0 = true := by decide +kernel
set_option maxRecDepth 100000 in
theorem xg_e258dd0b : sv_g sg 179 1 = (2147483648, 2147483688) := by decide +kernel
set_option maxRecDepth 100000 in
theorem xf_60fd5cc0 : wk_gf 65 11 179 2 (180 + 3) = true := by decide +kernel
set_option maxRecDepth 100000 in
theorem xf_5ce1fb8e : aw_cpf 180 107 40 48 = true := by decide +kernel
set_option maxRecDepth 100000 in
theorem xf_346d58ab : sv_gr sg 180 = [] := by decide +kernel
set_option maxRecDepth 100000 in
theorem xf_3b3fadfb : wk_gf 65 15 179 3 (181 + 3) = true := by decide +kernel
set_option maxRecDepth 100000 in
theorem xf_e527f999 : aw_cpf 181 108 40 48 = true := by decide +kernel
set_option maxRecDepth 100000 in
theorem xf_ff318b0e : sv_gr sg 181 = [] := by decide +kernel
set_option maxRecDepth 100000 in
theorem xf_5df50c97 : wk_gf 65 18 179 4 (182 + 3) = true := by decide +kernel
set_option maxRecDepth 100000 in
theorem xf_92aec58d : aw_cpf 182 109 40 48 = true := by decide +kernel
set_option maxRecDepth 100000 in
theorem xf_79a5f9a0 : sv_gr sg 182 = [] := by decide +kernel
set_option maxRecDepth 100000 in
theorem xf_d79478df : wk_gf 65 24 152 0 0 = true := by decide +kernel
set_option maxRecDepth 100000 in
theorem xf_9f74c029 : wk_gf 65 28 152 1 0 = true := by decide +kernel
set_option maxRecDepth 100000 in
theorem xf_9e45ddff : aw_cpf 107 153 40 48 = true := by decide +kernel
set_option maxRecDepth 100000 in
theorem xf_0df7d357 : aw_cpf 108 154 40 48 = true := by decide +kernel
set_option maxRecDepth 100000 in
theorem xf_7faa84c0 : aw_cpf 109 155 40 48 = true := by decide +kernel
set_option maxRecDepth 100000 in
theorem xf_c65a699a : wk_gf 65 24 179 0 0 = true := by decide +kernel
set_option maxRecDepth 100000 in
theorem xf_8ebad16c : wk_gf 65 28 179 1 0 = true := by decide +kernel
set_option maxRecDepth 100000 in
theorem xf_1e2a8a28 : aw_cpf 107 180 40 48 = true := by decide +kernel
set_option maxRecDepth 100000 in
theorem xf_755acf36 : aw_cpf 108 181 40 48 = true := by decide +kernel
set_option maxRecDepth 100000 in
theorem xf_e6695c0c : aw_cpf 109 182 40 48 = true := by decide +kernel
set_option maxRecDepth 100000 in
theorem xd_b61f699b : decode (ia_code 66) 0 = .ok (.aload_n 0, 1) := fdd_d (by decide +kernel)
set_option maxRecDepth 100000 in
theorem xd_965dfcd6 : decode (ia_code 66) 1 = .ok (.iconst 0, 1) := fdd_d (by decide +kernel)
set_option maxRecDepth 100000 in
theorem xd_8232437c : decode (ia_code 66) 2 = .ok (.putfield 24, 3) := fdd_d (by decide +kernel)
set_option maxRecDepth 100000 in
theorem xf_1d2068f8 : wk_pf 66 24 106 0 0 = true := by decide +kernel
set_option maxRecDepth 100000 in
theorem xd_2d3022dc : decode (ia_code 66) 5 = .ok (.aload_n 0, 1) := fdd_d (by decide +kernel)
set_option maxRecDepth 100000 in
theorem xd_f384c296 : decode (ia_code 66) 6 = .ok (.iconst 0, 1) := fdd_d (by decide +kernel)
set_option maxRecDepth 100000 in
theorem xd_19f47488 : decode (ia_code 66) 7 = .ok (.putfield 28, 3) := fdd_d (by decide +kernel)
set_option maxRecDepth 100000 in
theorem xf_55c0d00e : wk_pf 66 28 106 1 0 = true := by decide +kernel
set_option maxRecDepth 100000 in
theorem xd_b1c8ae39 : decode (ia_code 66) 10 = .ok (.return_, 1) := fdd_d (by decide +kernel)
set_option maxRecDepth 100000 in
theorem xr_1fe1e780 : ia_ret 66 = none := by decide +kernel
set_option maxRecDepth 100000 in
theorem xm_85b2a079 : ia_maxL 66 = 1 := by decide +kernel
set_option maxRecDepth 100000 in
theorem xf_b42e58f2 : wk_pf 66 24 111 0 0 = true := by decide +kernel
set_option maxRecDepth 100000 in
theorem xf_fccee004 : wk_pf 66 28 111 1 0 = true := by decide +kernel
set_option maxRecDepth 100000 in
theorem xd_c8027411 : decode (ia_code 53) 0 = .ok (.aload_n 0, 1) := fdd_d (by decide +kernel)
set_option maxRecDepth 100000 in
theorem xd_3a3ccbdb : decode (ia_code 53) 1 = .ok (.iconst 0, 1) := fdd_d (by decide +kernel)
set_option maxRecDepth 100000 in
theorem xd_633cbed6 : decode (ia_code 53) 2 = .ok (.putfield 18, 3) := fdd_d (by decide +kernel)
set_option maxRecDepth 100000 in
theorem xf_3da5dccc : wk_pf 53 18 47 2 0 = true := by decide +kernel
set_option maxRecDepth 100000 in
theorem xd_375c549e : decode (ia_code 53) 5 = .ok (.return_, 1) := fdd_d (by decide +kernel)
set_option maxRecDepth 100000 in
theorem xr_6e8cd521 : ia_ret 53 = none := by decide +kernel
set_option maxRecDepth 100000 in
theorem xm_cbc65da7 : ia_maxL 53 = 1 := by decide +kernel
set_option maxRecDepth 100000 in
theorem xd_2db95106 : decode (ia_code 71) 17 = .ok (.iload_n 1, 1) := fdd_d (by decide +kernel)
set_option maxRecDepth 100000 in
theorem xd_4ebb1697 : decode (ia_code 71) 18 = .ok (.bipush 6, 2) := fdd_d (by decide +kernel)
set_option maxRecDepth 100000 in
theorem xd_45e41c5b : decode (ia_code 71) 20 = .ok (.if_icmp .ge 46, 3) := fdd_d (by decide +kernel)
set_option maxRecDepth 100000 in
theorem xd_1298a360 : decode (ia_code 71) 23 = .ok (.aload_n 0, 1) := fdd_d (by decide +kernel)
set_option maxRecDepth 100000 in
theorem xd_37a7a5e4 : decode (ia_code 71) 24 = .ok (.getfield 9, 3) := fdd_d (by decide +kernel)
set_option maxRecDepth 100000 in
theorem xf_3d46729d : wk_gf 71 9 33 4 (34 + 3) = true := by decide +kernel
set_option maxRecDepth 100000 in
theorem xd_75a7f82e : decode (ia_code 71) 27 = .ok (.iload_n 1, 1) := fdd_d (by decide +kernel)
set_option maxRecDepth 100000 in
theorem xd_64c4d97b : decode (ia_code 71) 28 = .ok (.aload_n 0, 1) := fdd_d (by decide +kernel)
set_option maxRecDepth 100000 in
theorem xd_a5cdbec8 : decode (ia_code 71) 29 = .ok (.getfield 30, 3) := fdd_d (by decide +kernel)
set_option maxRecDepth 100000 in
theorem xf_0e86a34e : wk_gf 71 30 33 0 (4 + 3) = true := by decide +kernel
set_option maxRecDepth 100000 in
theorem xd_b3b3abc3 : decode (ia_code 71) 32 = .ok (.getfield 44, 3) := fdd_d (by decide +kernel)
set_option maxRecDepth 100000 in
theorem xf_8e0e3055 : wk_gf 71 44 4 11 (9 + 3) = true := by decide +kernel
set_option maxRecDepth 100000 in
theorem xd_19144ee0 : decode (ia_code 71) 35 = .ok (.iload_n 1, 1) := fdd_d (by decide +kernel)
set_option maxRecDepth 100000 in
theorem xd_29dcb12c : decode (ia_code 71) 36 = .ok (.iaload, 1) := fdd_d (by decide +kernel)
set_option maxRecDepth 100000 in
theorem xf_888688f9 : wk_ar 9 50 6 = true := by decide +kernel
set_option maxRecDepth 100000 in
theorem xd_6a49aab5 : decode (ia_code 71) 37 = .ok (.iastore, 1) := fdd_d (by decide +kernel)
set_option maxRecDepth 100000 in
theorem xd_e5e1bc5c : decode (ia_code 71) 38 = .ok (.aload_n 0, 1) := fdd_d (by decide +kernel)
set_option maxRecDepth 100000 in
theorem xd_c7f83624 : decode (ia_code 71) 39 = .ok (.getfield 15, 3) := fdd_d (by decide +kernel)
set_option maxRecDepth 100000 in
theorem xf_465bf3ef : wk_gf 71 15 33 5 (35 + 3) = true := by decide +kernel
set_option maxRecDepth 100000 in
theorem xd_5eb5e139 : decode (ia_code 71) 42 = .ok (.iload_n 1, 1) := fdd_d (by decide +kernel)
set_option maxRecDepth 100000 in
theorem xd_a2a5f130 : decode (ia_code 71) 43 = .ok (.aload_n 0, 1) := fdd_d (by decide +kernel)
set_option maxRecDepth 100000 in
theorem xd_e82e2a3b : decode (ia_code 71) 44 = .ok (.getfield 30, 3) := fdd_d (by decide +kernel)
set_option maxRecDepth 100000 in
theorem xd_72e670c0 : decode (ia_code 71) 47 = .ok (.getfield 47, 3) := fdd_d (by decide +kernel)
set_option maxRecDepth 100000 in
theorem xf_bf568b14 : wk_gf 71 47 4 12 (10 + 3) = true := by decide +kernel
set_option maxRecDepth 100000 in
theorem xd_320657f7 : decode (ia_code 71) 50 = .ok (.iload_n 1, 1) := fdd_d (by decide +kernel)
set_option maxRecDepth 100000 in
theorem xd_3ea51279 : decode (ia_code 71) 51 = .ok (.iaload, 1) := fdd_d (by decide +kernel)
set_option maxRecDepth 100000 in
theorem xf_151564df : wk_ar 10 50 6 = true := by decide +kernel
set_option maxRecDepth 100000 in
theorem xd_959b7710 : decode (ia_code 71) 52 = .ok (.iastore, 1) := fdd_d (by decide +kernel)
set_option maxRecDepth 100000 in
theorem xf_e9541361 : wk_ar 35 50 6 = true := by decide +kernel
set_option maxRecDepth 100000 in
theorem xd_23809417 : decode (ia_code 71) 53 = .ok (.aload_n 0, 1) := fdd_d (by decide +kernel)
set_option maxRecDepth 100000 in
theorem xd_728b6666 : decode (ia_code 71) 54 = .ok (.getfield 18, 3) := fdd_d (by decide +kernel)
set_option maxRecDepth 100000 in
theorem xf_5ac11565 : wk_gf 71 18 33 6 (36 + 3) = true := by decide +kernel
set_option maxRecDepth 100000 in
theorem xd_44bfcf59 : decode (ia_code 71) 57 = .ok (.iload_n 1, 1) := fdd_d (by decide +kernel)
set_option maxRecDepth 100000 in
theorem xd_21f91d9e : decode (ia_code 71) 58 = .ok (.iconst 0, 1) := fdd_d (by decide +kernel)
set_option maxRecDepth 100000 in
theorem xd_cb77fc85 : decode (ia_code 71) 59 = .ok (.iastore, 1) := fdd_d (by decide +kernel)
set_option maxRecDepth 100000 in
theorem xd_d0b13387 : decode (ia_code 71) 60 = .ok (.iinc 1 1, 3) := fdd_d (by decide +kernel)
set_option maxRecDepth 100000 in
theorem xm_65c7fe76 : ia_maxL 71 = 2 := by decide +kernel
set_option maxRecDepth 100000 in
theorem xd_82ef1531 : decode (ia_code 71) 63 = .ok (.goto (-46), 3) := fdd_d (by decide +kernel)
set_option maxRecDepth 100000 in
theorem xd_6aa1bdf9 : decode (ia_code 71) 68 = .ok (.iload_n 1, 1) := fdd_d (by decide +kernel)
set_option maxRecDepth 100000 in
theorem xd_b5b4e6a3 : decode (ia_code 71) 69 = .ok (.iconst 4, 1) := fdd_d (by decide +kernel)
set_option maxRecDepth 100000 in
theorem xd_dd1417d3 : decode (ia_code 71) 70 = .ok (.if_icmp .ge 24, 3) := fdd_d (by decide +kernel)
set_option maxRecDepth 100000 in
theorem xd_fabb5818 : decode (ia_code 71) 73 = .ok (.aload_n 0, 1) := fdd_d (by decide +kernel)
set_option maxRecDepth 100000 in
theorem xd_ec453dd6 : decode (ia_code 71) 74 = .ok (.getfield 21, 3) := fdd_d (by decide +kernel)
set_option maxRecDepth 100000 in
theorem xf_d87f7c5e : wk_gf 71 21 33 7 (37 + 3) = true := by decide +kernel
set_option maxRecDepth 100000 in
theorem xd_9d840356 : decode (ia_code 71) 77 = .ok (.iload_n 1, 1) := fdd_d (by decide +kernel)
set_option maxRecDepth 100000 in
theorem xd_8ce72203 : decode (ia_code 71) 78 = .ok (.aload_n 0, 1) := fdd_d (by decide +kernel)
set_option maxRecDepth 100000 in
theorem xd_68448e81 : decode (ia_code 71) 79 = .ok (.getfield 30, 3) := fdd_d (by decide +kernel)
set_option maxRecDepth 100000 in
theorem xd_d13d8686 : decode (ia_code 71) 82 = .ok (.getfield 48, 3) := fdd_d (by decide +kernel)
set_option maxRecDepth 100000 in
theorem xf_a4a49117 : wk_gf 71 48 4 14 (12 + 3) = true := by decide +kernel
set_option maxRecDepth 100000 in
theorem xd_9307db76 : decode (ia_code 71) 85 = .ok (.iload_n 1, 1) := fdd_d (by decide +kernel)
set_option maxRecDepth 100000 in
theorem xd_77303ab9 : decode (ia_code 71) 86 = .ok (.iaload, 1) := fdd_d (by decide +kernel)
set_option maxRecDepth 100000 in
theorem xf_376cd6e9 : wk_ar 12 50 4 = true := by decide +kernel
set_option maxRecDepth 100000 in
theorem xd_ea7221f5 : decode (ia_code 71) 87 = .ok (.iastore, 1) := fdd_d (by decide +kernel)
set_option maxRecDepth 100000 in
theorem xd_848124db : decode (ia_code 71) 88 = .ok (.iinc 1 1, 3) := fdd_d (by decide +kernel)
set_option maxRecDepth 100000 in
theorem xd_8a9212a8 : decode (ia_code 71) 91 = .ok (.goto (-23), 3) := fdd_d (by decide +kernel)
set_option maxRecDepth 100000 in
theorem xd_64c7876c : decode (ia_code 71) 96 = .ok (.iload_n 1, 1) := fdd_d (by decide +kernel)
set_option maxRecDepth 100000 in
theorem xd_92984df1 : decode (ia_code 71) 97 = .ok (.bipush 6, 2) := fdd_d (by decide +kernel)
set_option maxRecDepth 100000 in
theorem xd_12e736d3 : decode (ia_code 71) 99 = .ok (.if_icmp .ge 16, 3) := fdd_d (by decide +kernel)
set_option maxRecDepth 100000 in
theorem xd_c4888d05 : decode (ia_code 71) 102 = .ok (.aload_n 0, 1) := fdd_d (by decide +kernel)
set_option maxRecDepth 100000 in
theorem xd_46abaa74 : decode (ia_code 71) 103 = .ok (.getfield 24, 3) := fdd_d (by decide +kernel)
set_option maxRecDepth 100000 in
theorem xf_72046d7e : wk_gf 71 24 33 8 (38 + 3) = true := by decide +kernel
set_option maxRecDepth 100000 in
theorem xd_a3b7d64b : decode (ia_code 71) 106 = .ok (.iload_n 1, 1) := fdd_d (by decide +kernel)
set_option maxRecDepth 100000 in
theorem xd_72c1af3c : decode (ia_code 71) 107 = .ok (.iconst (-1), 1) := fdd_d (by decide +kernel)
set_option maxRecDepth 100000 in
theorem xd_2ffad0ff : decode (ia_code 71) 108 = .ok (.iastore, 1) := fdd_d (by decide +kernel)
set_option maxRecDepth 100000 in
theorem xf_ae78731f : wk_ar 38 50 6 = true := by decide +kernel
set_option maxRecDepth 100000 in
theorem xd_af2339b4 : decode (ia_code 71) 109 = .ok (.iinc 1 1, 3) := fdd_d (by decide +kernel)
set_option maxRecDepth 100000 in
theorem xd_b3ef659a : decode (ia_code 71) 112 = .ok (.goto (-16), 3) := fdd_d (by decide +kernel)
set_option maxRecDepth 100000 in
theorem xd_b9e159b8 : decode (ia_code 71) 117 = .ok (.iload_n 1, 1) := fdd_d (by decide +kernel)
set_option maxRecDepth 100000 in
theorem xd_2e9a8ba9 : decode (ia_code 71) 118 = .ok (.bipush 10, 2) := fdd_d (by decide +kernel)
set_option maxRecDepth 100000 in
theorem xd_08e82364 : decode (ia_code 71) 120 = .ok (.if_icmp .ge 16, 3) := fdd_d (by decide +kernel)
set_option maxRecDepth 100000 in
theorem xd_86c0abde : decode (ia_code 71) 123 = .ok (.aload_n 0, 1) := fdd_d (by decide +kernel)
set_option maxRecDepth 100000 in
theorem xd_da116763 : decode (ia_code 71) 124 = .ok (.getfield 27, 3) := fdd_d (by decide +kernel)
set_option maxRecDepth 100000 in
theorem xf_114cd2f8 : wk_gf 71 27 33 9 (39 + 3) = true := by decide +kernel
set_option maxRecDepth 100000 in
theorem xd_e1fff090 : decode (ia_code 71) 127 = .ok (.iload_n 1, 1) := fdd_d (by decide +kernel)
set_option maxRecDepth 100000 in
theorem xd_85d08b4c : decode (ia_code 71) 128 = .ok (.iconst (-1), 1) := fdd_d (by decide +kernel)
set_option maxRecDepth 100000 in
theorem xd_9e709ae1 : decode (ia_code 71) 129 = .ok (.iastore, 1) := fdd_d (by decide +kernel)
set_option maxRecDepth 100000 in
theorem xf_f99d6c00 : wk_ar 39 50 10 = true := by decide +kernel
set_option maxRecDepth 100000 in
theorem xd_77ad4249 : decode (ia_code 71) 130 = .ok (.iinc 1 1, 3) := fdd_d (by decide +kernel)
set_option maxRecDepth 100000 in
theorem xd_a2ac26e0 : decode (ia_code 71) 133 = .ok (.goto (-16), 3) := fdd_d (by decide +kernel)
set_option maxRecDepth 100000 in
theorem xd_005009fc : decode (ia_code 71) 0 = .ok (.aload_n 0, 1) := fdd_d (by decide +kernel)
set_option maxRecDepth 100000 in
theorem xd_bf10a6e9 : decode (ia_code 71) 1 = .ok (.iconst 0, 1) := fdd_d (by decide +kernel)
set_option maxRecDepth 100000 in
theorem xd_2e60baae : decode (ia_code 71) 2 = .ok (.putfield 34, 3) := fdd_d (by decide +kernel)
set_option maxRecDepth 100000 in
theorem xf_1bd2bb1d : wk_pf 71 34 33 1 0 = true := by decide +kernel
set_option maxRecDepth 100000 in
theorem xf_0276eb13 : sv_gr sg 33 = [] := by decide +kernel
set_option maxRecDepth 100000 in
theorem xd_9b7f42bb : decode (ia_code 71) 5 = .ok (.aload_n 0, 1) := fdd_d (by decide +kernel)
set_option maxRecDepth 100000 in
theorem xd_dac998a9 : decode (ia_code 71) 6 = .ok (.iconst 0, 1) := fdd_d (by decide +kernel)
set_option maxRecDepth 100000 in
theorem xd_b5a68d5a : decode (ia_code 71) 7 = .ok (.putfield 38, 3) := fdd_d (by decide +kernel)
set_option maxRecDepth 100000 in
theorem xf_b510a9fa : wk_pf 71 38 33 2 0 = true := by decide +kernel
set_option maxRecDepth 100000 in
theorem xd_3c633375 : decode (ia_code 71) 10 = .ok (.aload_n 0, 1) := fdd_d (by decide +kernel)
set_option maxRecDepth 100000 in
theorem xd_8fcefecd : decode (ia_code 71) 11 = .ok (.iconst 0, 1) := fdd_d (by decide +kernel)
set_option maxRecDepth 100000 in
theorem xd_d7c8c3e5 : decode (ia_code 71) 12 = .ok (.putfield 41, 3) := fdd_d (by decide +kernel)
set_option maxRecDepth 100000 in
theorem xf_d1592dde : wk_pf 71 41 33 3 0 = true := by decide +kernel
set_option maxRecDepth 100000 in
theorem xd_d36f6dcd : decode (ia_code 71) 15 = .ok (.iconst 0, 1) := fdd_d (by decide +kernel)
set_option maxRecDepth 100000 in
theorem xd_0d7f9536 : decode (ia_code 71) 16 = .ok (.istore_n 1, 1) := fdd_d (by decide +kernel)
set_option maxRecDepth 100000 in
theorem xd_9cae5823 : decode (ia_code 71) 66 = .ok (.iconst 0, 1) := fdd_d (by decide +kernel)
set_option maxRecDepth 100000 in
theorem xd_420a0cb9 : decode (ia_code 71) 67 = .ok (.istore_n 1, 1) := fdd_d (by decide +kernel)
set_option maxRecDepth 100000 in
theorem xd_c4fe4a2b : decode (ia_code 71) 94 = .ok (.iconst 0, 1) := fdd_d (by decide +kernel)
set_option maxRecDepth 100000 in
theorem xd_796aafa9 : decode (ia_code 71) 95 = .ok (.istore_n 1, 1) := fdd_d (by decide +kernel)
set_option maxRecDepth 100000 in
theorem xd_ef5c5744 : decode (ia_code 71) 115 = .ok (.iconst 0, 1) := fdd_d (by decide +kernel)
set_option maxRecDepth 100000 in
theorem xd_213253b5 : decode (ia_code 71) 116 = .ok (.istore_n 1, 1) := fdd_d (by decide +kernel)
set_option maxRecDepth 100000 in
theorem xd_70366064 : decode (ia_code 71) 136 = .ok (.return_, 1) := fdd_d (by decide +kernel)
set_option maxRecDepth 100000 in
theorem xr_025ffada : ia_ret 71 = none := by decide +kernel
set_option maxRecDepth 100000 in
theorem xd_559eaa95 : decode (ia_code 21) 0 = .ok (.iload_n 0, 1) := fdd_d (by decide +kernel)
set_option maxRecDepth 100000 in
theorem xd_b394d68a : decode (ia_code 21) 1 = .ok (.ifCond .lt 12, 3) := fdd_d (by decide +kernel)
set_option maxRecDepth 100000 in
theorem xd_ae534749 : decode (ia_code 21) 13 = .ok (.iconst 0, 1) := fdd_d (by decide +kernel)
set_option maxRecDepth 100000 in
theorem xd_55b3221e : decode (ia_code 21) 14 = .ok (.ireturn, 1) := fdd_d (by decide +kernel)
set_option maxRecDepth 100000 in
theorem xr_66098b4d : ia_ret 21 = some .boolean := by decide +kernel
set_option maxRecDepth 100000 in
theorem xd_55c20b06 : decode (ia_code 21) 4 = .ok (.iload_n 0, 1) := fdd_d (by decide +kernel)
set_option maxRecDepth 100000 in
theorem xd_54f856c0 : decode (ia_code 21) 5 = .ok (.iconst 2, 1) := fdd_d (by decide +kernel)
set_option maxRecDepth 100000 in
theorem xd_30ef43b0 : decode (ia_code 21) 6 = .ok (.if_icmp .ge 7, 3) := fdd_d (by decide +kernel)
set_option maxRecDepth 100000 in
theorem xd_f6ba9910 : decode (ia_code 21) 9 = .ok (.iconst 1, 1) := fdd_d (by decide +kernel)
set_option maxRecDepth 100000 in
theorem xd_a079424e : decode (ia_code 21) 10 = .ok (.goto 4, 3) := fdd_d (by decide +kernel)
set_option maxRecDepth 100000 in
theorem xm_ac033e7f : ia_maxL 21 = 1 := by decide +kernel
set_option maxRecDepth 100000 in
theorem xd_e4b47357 : decode (ia_code 17) 0 = .ok (.iload_n 1, 1) := fdd_d (by decide +kernel)
set_option maxRecDepth 100000 in
theorem xl_9a673b16 : ia_pl (ia_cls 17) 386 = some (1, 21, 1, 0, 1356) := by decide +kernel
set_option maxRecDepth 100000 in
theorem xn_cd1e0db1 : ia_na 21 = 1 := by decide +kernel
set_option maxRecDepth 100000 in
theorem xc_86f546fc : ia_mc 21 = 0 ∧ ia_ms 21 = 0 := ⟨by decide +kernel, by decide +kernel⟩
set_option maxRecDepth 100000 in
theorem xd_4c6a18eb : decode (ia_code 17) 1 = .ok (.invokestatic 386, 3) := fdd_d (by decide +kernel)
set_option maxRecDepth 100000 in
theorem xd_b6d246d8 : decode (ia_code 17) 4 = .ok (.ifCond .ne 5, 3) := fdd_d (by decide +kernel)
set_option maxRecDepth 100000 in
theorem xd_181d2078 : decode (ia_code 17) 9 = .ok (.aload_n 0, 1) := fdd_d (by decide +kernel)
set_option maxRecDepth 100000 in
theorem xd_ec3408f3 : decode (ia_code 17) 10 = .ok (.getfield 62, 3) := fdd_d (by decide +kernel)
set_option maxRecDepth 100000 in
theorem xf_2c96914e : wk_gf 17 62 0 10 (105 + 3) = true := by decide +kernel
set_option maxRecDepth 100000 in
theorem xd_9400a31c : decode (ia_code 17) 13 = .ok (.iload_n 1, 1) := fdd_d (by decide +kernel)
set_option maxRecDepth 100000 in
theorem xd_cfe7b8df : decode (ia_code 17) 14 = .ok (.aaload, 1) := fdd_d (by decide +kernel)
set_option maxRecDepth 100000 in
theorem xf_631baa43 : aw_aar 105 54 0 130 = true := by decide +kernel
set_option maxRecDepth 100000 in
theorem xd_b545862f : decode (ia_code 17) 15 = .ok (.astore_n 2, 1) := fdd_d (by decide +kernel)
set_option maxRecDepth 100000 in
theorem xm_4bd9d85d : ia_maxL 17 = 3 := by decide +kernel
set_option maxRecDepth 100000 in
theorem xd_128c41e6 : decode (ia_code 17) 16 = .ok (.aload_n 2, 1) := fdd_d (by decide +kernel)
set_option maxRecDepth 100000 in
theorem xd_d313d710 : decode (ia_code 17) 17 = .ok (.getfield 389, 3) := fdd_d (by decide +kernel)
set_option maxRecDepth 100000 in
theorem xf_422cbc6f : wk_gf 17 389 130 1 (131 + 3) = true := by decide +kernel
set_option maxRecDepth 100000 in
theorem xd_dd98c9d4 : decode (ia_code 17) 20 = .ok (.aload_n 0, 1) := fdd_d (by decide +kernel)
set_option maxRecDepth 100000 in
theorem xd_9259eb03 : decode (ia_code 17) 21 = .ok (.getfield 25, 3) := fdd_d (by decide +kernel)
set_option maxRecDepth 100000 in
theorem xf_7266101c : wk_gf 17 25 0 4 (4 + 3) = true := by decide +kernel
set_option maxRecDepth 100000 in
theorem xl_8f86ae33 : ia_pl (ia_cls 17) 131 = some (1, 85, 0, 0, 822) := by decide +kernel
set_option maxRecDepth 100000 in
theorem xn_000cd9ad : ia_na 85 = 2 := by decide +kernel
set_option maxRecDepth 100000 in
theorem xc_6360c095 : ia_mc 85 = 0 ∧ ia_ms 85 = 0 := ⟨by decide +kernel, by decide +kernel⟩
set_option maxRecDepth 100000 in
theorem xv_b3bc9392 : cm_rcv 85 [.inr (.inr (some 131))] = true := by decide +kernel
set_option maxRecDepth 100000 in
theorem xd_d7e19759 : decode (ia_code 17) 24 = .ok (.invokevirtual 131, 3) := fdd_d (by decide +kernel)
set_option maxRecDepth 100000 in
theorem xd_d1e1021a : decode (ia_code 17) 27 = .ok (.aload_n 2, 1) := fdd_d (by decide +kernel)
set_option maxRecDepth 100000 in
theorem xd_2b211d9d : decode (ia_code 17) 28 = .ok (.getfield 390, 3) := fdd_d (by decide +kernel)
set_option maxRecDepth 100000 in
theorem xf_fb7d68cc : wk_gf 17 390 130 2 (145 + 3) = true := by decide +kernel
set_option maxRecDepth 100000 in
theorem xd_c7ce4627 : decode (ia_code 17) 31 = .ok (.aload_n 0, 1) := fdd_d (by decide +kernel)
set_option maxRecDepth 100000 in
theorem xd_d150620a : decode (ia_code 17) 32 = .ok (.getfield 46, 3) := fdd_d (by decide +kernel)
set_option maxRecDepth 100000 in
theorem xf_6b63b71b : wk_gf 17 46 0 7 (33 + 3) = true := by decide +kernel
set_option maxRecDepth 100000 in
theorem xl_30671ae0 : ia_pl (ia_cls 17) 333 = some (1, 72, 0, 0, 1129) := by decide +kernel
set_option maxRecDepth 100000 in
theorem xv_f7ccc335 : cm_rcv 72 [.inr (.inr (some 145))] = true := by decide +kernel
set_option maxRecDepth 100000 in
theorem xd_c583386b : decode (ia_code 17) 35 = .ok (.invokevirtual 333, 3) := fdd_d (by decide +kernel)
set_option maxRecDepth 100000 in
theorem xd_26c4bcb5 : decode (ia_code 17) 38 = .ok (.aload_n 2, 1) := fdd_d (by decide +kernel)
set_option maxRecDepth 100000 in
theorem xd_9fd089fb : decode (ia_code 17) 39 = .ok (.getfield 391, 3) := fdd_d (by decide +kernel)
set_option maxRecDepth 100000 in
theorem xf_75765c24 : wk_gf 17 391 130 3 (152 + 3) = true := by decide +kernel
set_option maxRecDepth 100000 in
theorem xd_8033486d : decode (ia_code 17) 42 = .ok (.aload_n 0, 1) := fdd_d (by decide +kernel)
set_option maxRecDepth 100000 in
theorem xd_6380bff8 : decode (ia_code 17) 43 = .ok (.getfield 69, 3) := fdd_d (by decide +kernel)
set_option maxRecDepth 100000 in
theorem xf_0852317a : wk_gf 17 69 0 11 (106 + 3) = true := by decide +kernel
set_option maxRecDepth 100000 in
theorem xl_a009f5f2 : ia_pl (ia_cls 17) 377 = some (1, 65, 0, 0, 1314) := by decide +kernel
set_option maxRecDepth 100000 in
theorem xn_3a06b8dd : ia_na 65 = 2 := by decide +kernel
set_option maxRecDepth 100000 in
theorem xc_b41990b9 : ia_mc 65 = 0 ∧ ia_ms 65 = 0 := ⟨by decide +kernel, by decide +kernel⟩
set_option maxRecDepth 100000 in
theorem xv_e10d3936 : cm_rcv 65 [.inr (.inr (some 152))] = true := by decide +kernel
set_option maxRecDepth 100000 in
theorem xd_002ff75b : decode (ia_code 17) 46 = .ok (.invokevirtual 377, 3) := fdd_d (by decide +kernel)
set_option maxRecDepth 100000 in
theorem xd_8caf6116 : decode (ia_code 17) 49 = .ok (.aload_n 2, 1) := fdd_d (by decide +kernel)
set_option maxRecDepth 100000 in
theorem xd_265d9258 : decode (ia_code 17) 50 = .ok (.iconst 1, 1) := fdd_d (by decide +kernel)
set_option maxRecDepth 100000 in
theorem xd_6ebcdaf4 : decode (ia_code 17) 51 = .ok (.putfield 392, 3) := fdd_d (by decide +kernel)
set_option maxRecDepth 100000 in
theorem xf_3656809d : wk_pf 17 392 130 0 1 = true := by decide +kernel
set_option maxRecDepth 100000 in
theorem xg_cc65b67e : sv_g sg 130 0 = (2147483648, 2147483649) := by decide +kernel
set_option maxRecDepth 100000 in
theorem xd_7afc0158 : decode (ia_code 17) 54 = .ok (.iconst 1, 1) := fdd_d (by decide +kernel)
set_option maxRecDepth 100000 in
theorem xd_0f44b3de : decode (ia_code 17) 55 = .ok (.ireturn, 1) := fdd_d (by decide +kernel)
set_option maxRecDepth 100000 in
theorem xr_2bbbe127 : ia_ret 17 = some .boolean := by decide +kernel
set_option maxRecDepth 100000 in
theorem xf_816196bf : aw_aar 105 54 1 157 = true := by decide +kernel
set_option maxRecDepth 100000 in
theorem xf_2a025e64 : wk_gf 17 389 157 1 (158 + 3) = true := by decide +kernel
set_option maxRecDepth 100000 in
theorem xv_27cc08f7 : cm_rcv 85 [.inr (.inr (some 158))] = true := by decide +kernel
set_option maxRecDepth 100000 in
theorem xf_ed16e81a : wk_gf 17 390 157 2 (172 + 3) = true := by decide +kernel
set_option maxRecDepth 100000 in
theorem xv_a9690446 : cm_rcv 72 [.inr (.inr (some 172))] = true := by decide +kernel
set_option maxRecDepth 100000 in
theorem xf_64a8847f : wk_gf 17 391 157 3 (179 + 3) = true := by decide +kernel
set_option maxRecDepth 100000 in
theorem xv_2e1720ed : cm_rcv 65 [.inr (.inr (some 179))] = true := by decide +kernel
set_option maxRecDepth 100000 in
theorem xf_e22bb6cf : wk_pf 17 392 157 0 1 = true := by decide +kernel
set_option maxRecDepth 100000 in
theorem xg_5f176da0 : sv_g sg 157 0 = (2147483648, 2147483649) := by decide +kernel
set_option maxRecDepth 100000 in
theorem xd_99e44d7e : decode (ia_code 17) 7 = .ok (.iconst 0, 1) := fdd_d (by decide +kernel)
set_option maxRecDepth 100000 in
theorem xd_1f70ec83 : decode (ia_code 17) 8 = .ok (.ireturn, 1) := fdd_d (by decide +kernel)
set_option maxRecDepth 100000 in
theorem xd_39ac45d5 : decode (ia_code 37) 0 = .ok (.iload_n 1, 1) := fdd_d (by decide +kernel)
set_option maxRecDepth 100000 in
theorem xl_d363997a : ia_pl (ia_cls 37) 386 = some (1, 21, 1, 0, 1356) := by decide +kernel
set_option maxRecDepth 100000 in
theorem xd_056eba87 : decode (ia_code 37) 1 = .ok (.invokestatic 386, 3) := fdd_d (by decide +kernel)
set_option maxRecDepth 100000 in
theorem xd_6d9f6040 : decode (ia_code 37) 4 = .ok (.ifCond .eq 15, 3) := fdd_d (by decide +kernel)
set_option maxRecDepth 100000 in
theorem xd_68126e39 : decode (ia_code 37) 19 = .ok (.iconst 0, 1) := fdd_d (by decide +kernel)
set_option maxRecDepth 100000 in
theorem xd_f2f441d4 : decode (ia_code 37) 20 = .ok (.ireturn, 1) := fdd_d (by decide +kernel)
set_option maxRecDepth 100000 in
theorem xr_2e6f8aa4 : ia_ret 37 = some .boolean := by decide +kernel
set_option maxRecDepth 100000 in
theorem xd_287627a6 : decode (ia_code 37) 7 = .ok (.aload_n 0, 1) := fdd_d (by decide +kernel)
set_option maxRecDepth 100000 in
theorem xd_a683abf1 : decode (ia_code 37) 8 = .ok (.getfield 62, 3) := fdd_d (by decide +kernel)
set_option maxRecDepth 100000 in
theorem xf_f18ea7cc : wk_gf 37 62 0 10 (105 + 3) = true := by decide +kernel
set_option maxRecDepth 100000 in
theorem xd_7afd8acf : decode (ia_code 37) 11 = .ok (.iload_n 1, 1) := fdd_d (by decide +kernel)
set_option maxRecDepth 100000 in
theorem xd_dba20357 : decode (ia_code 37) 12 = .ok (.aaload, 1) := fdd_d (by decide +kernel)
set_option maxRecDepth 100000 in
theorem xd_58c472d8 : decode (ia_code 37) 13 = .ok (.getfield 392, 3) := fdd_d (by decide +kernel)
set_option maxRecDepth 100000 in
theorem xf_504bc934 : wk_gf 37 392 130 0 0 = true := by decide +kernel
set_option maxRecDepth 100000 in
theorem xd_7dfbe136 : decode (ia_code 37) 16 = .ok (.ifCond .ne 5, 3) := fdd_d (by decide +kernel)
set_option maxRecDepth 100000 in
theorem xd_4580d93a : decode (ia_code 37) 21 = .ok (.aload_n 0, 1) := fdd_d (by decide +kernel)
set_option maxRecDepth 100000 in
theorem xd_f6c40546 : decode (ia_code 37) 22 = .ok (.getfield 62, 3) := fdd_d (by decide +kernel)
set_option maxRecDepth 100000 in
theorem xd_22bf8274 : decode (ia_code 37) 25 = .ok (.iload_n 1, 1) := fdd_d (by decide +kernel)
set_option maxRecDepth 100000 in
theorem xd_ee516aed : decode (ia_code 37) 26 = .ok (.aaload, 1) := fdd_d (by decide +kernel)
set_option maxRecDepth 100000 in
theorem xd_9f9c4e3b : decode (ia_code 37) 27 = .ok (.astore_n 2, 1) := fdd_d (by decide +kernel)
set_option maxRecDepth 100000 in
theorem xm_06117956 : ia_maxL 37 = 3 := by decide +kernel
set_option maxRecDepth 100000 in
theorem xd_de4a70c8 : decode (ia_code 37) 28 = .ok (.aload_n 0, 1) := fdd_d (by decide +kernel)
set_option maxRecDepth 100000 in
theorem xd_c693bea4 : decode (ia_code 37) 29 = .ok (.getfield 25, 3) := fdd_d (by decide +kernel)
set_option maxRecDepth 100000 in
theorem xf_ab5ddc13 : wk_gf 37 25 0 4 (4 + 3) = true := by decide +kernel
set_option maxRecDepth 100000 in
theorem xd_c880d640 : decode (ia_code 37) 32 = .ok (.aload_n 2, 1) := fdd_d (by decide +kernel)
set_option maxRecDepth 100000 in
theorem xd_3950a6ee : decode (ia_code 37) 33 = .ok (.getfield 389, 3) := fdd_d (by decide +kernel)
set_option maxRecDepth 100000 in
theorem xf_84230e27 : wk_gf 37 389 130 1 (131 + 3) = true := by decide +kernel
set_option maxRecDepth 100000 in
theorem xl_e2638fd5 : ia_pl (ia_cls 37) 131 = some (1, 85, 0, 0, 822) := by decide +kernel
set_option maxRecDepth 100000 in
theorem xv_1cbefe77 : cm_rcv 85 [.inr (.inr (some 4))] = true := by decide +kernel
set_option maxRecDepth 100000 in
theorem xd_ca64ec3a : decode (ia_code 37) 36 = .ok (.invokevirtual 131, 3) := fdd_d (by decide +kernel)
set_option maxRecDepth 100000 in
theorem xd_c41cff3b : decode (ia_code 37) 39 = .ok (.aload_n 0, 1) := fdd_d (by decide +kernel)
set_option maxRecDepth 100000 in
theorem xd_e134f961 : decode (ia_code 37) 40 = .ok (.getfield 46, 3) := fdd_d (by decide +kernel)
set_option maxRecDepth 100000 in
theorem xf_fb059146 : wk_gf 37 46 0 7 (33 + 3) = true := by decide +kernel
set_option maxRecDepth 100000 in
theorem xd_62eb0be3 : decode (ia_code 37) 43 = .ok (.aload_n 2, 1) := fdd_d (by decide +kernel)
set_option maxRecDepth 100000 in
theorem xd_f50a2a9a : decode (ia_code 37) 44 = .ok (.getfield 390, 3) := fdd_d (by decide +kernel)
set_option maxRecDepth 100000 in
theorem xf_3d72da84 : wk_gf 37 390 130 2 (145 + 3) = true := by decide +kernel
set_option maxRecDepth 100000 in
theorem xl_7963b88c : ia_pl (ia_cls 37) 333 = some (1, 72, 0, 0, 1129) := by decide +kernel
set_option maxRecDepth 100000 in
theorem xd_91495437 : decode (ia_code 37) 47 = .ok (.invokevirtual 333, 3) := fdd_d (by decide +kernel)
set_option maxRecDepth 100000 in
theorem xd_efeb0499 : decode (ia_code 37) 50 = .ok (.aload_n 0, 1) := fdd_d (by decide +kernel)
set_option maxRecDepth 100000 in
theorem xd_6c3af922 : decode (ia_code 37) 51 = .ok (.getfield 69, 3) := fdd_d (by decide +kernel)
set_option maxRecDepth 100000 in
theorem xf_d54a07f8 : wk_gf 37 69 0 11 (106 + 3) = true := by decide +kernel
set_option maxRecDepth 100000 in
theorem xd_9577f66a : decode (ia_code 37) 54 = .ok (.aload_n 2, 1) := fdd_d (by decide +kernel)
set_option maxRecDepth 100000 in
theorem xd_41fbbefc : decode (ia_code 37) 55 = .ok (.getfield 391, 3) := fdd_d (by decide +kernel)
set_option maxRecDepth 100000 in
theorem xf_b379ee6c : wk_gf 37 391 130 3 (152 + 3) = true := by decide +kernel
set_option maxRecDepth 100000 in
theorem xl_e90d579e : ia_pl (ia_cls 37) 377 = some (1, 65, 0, 0, 1314) := by decide +kernel
set_option maxRecDepth 100000 in
theorem xv_c9773da4 : cm_rcv 65 [.inr (.inr (some 106))] = true := by decide +kernel
set_option maxRecDepth 100000 in
theorem xd_510a69f4 : decode (ia_code 37) 58 = .ok (.invokevirtual 377, 3) := fdd_d (by decide +kernel)
set_option maxRecDepth 100000 in
theorem xd_2c864765 : decode (ia_code 37) 61 = .ok (.aload_n 0, 1) := fdd_d (by decide +kernel)
set_option maxRecDepth 100000 in
theorem xd_af4447f6 : decode (ia_code 37) 62 = .ok (.getfield 56, 3) := fdd_d (by decide +kernel)
set_option maxRecDepth 100000 in
theorem xf_087dcd46 : wk_gf 37 56 0 9 (47 + 3) = true := by decide +kernel
set_option maxRecDepth 100000 in
theorem xl_e34c5633 : ia_pl (ia_cls 37) 140 = some (1, 53, 0, 0, 837) := by decide +kernel
set_option maxRecDepth 100000 in
theorem xn_aadb6e69 : ia_na 53 = 1 := by decide +kernel
set_option maxRecDepth 100000 in
theorem xc_b9d9740a : ia_mc 53 = 0 ∧ ia_ms 53 = 0 := ⟨by decide +kernel, by decide +kernel⟩
set_option maxRecDepth 100000 in
theorem xv_919b42ff : cm_rcv 53 [.inr (.inr (some 47))] = true := by decide +kernel
set_option maxRecDepth 100000 in
theorem xd_7979d3c1 : decode (ia_code 37) 65 = .ok (.invokevirtual 140, 3) := fdd_d (by decide +kernel)
set_option maxRecDepth 100000 in
theorem xd_34e3bbe7 : decode (ia_code 37) 68 = .ok (.iconst 1, 1) := fdd_d (by decide +kernel)
set_option maxRecDepth 100000 in
theorem xd_147d583c : decode (ia_code 37) 69 = .ok (.ireturn, 1) := fdd_d (by decide +kernel)
set_option maxRecDepth 100000 in
theorem xf_8436ff66 : wk_gf 37 392 157 0 0 = true := by decide +kernel
set_option maxRecDepth 100000 in
theorem xf_ec0dec2c : wk_gf 37 389 157 1 (158 + 3) = true := by decide +kernel
set_option maxRecDepth 100000 in
theorem xf_2b195a52 : wk_gf 37 390 157 2 (172 + 3) = true := by decide +kernel
set_option maxRecDepth 100000 in
theorem xf_a2a73637 : wk_gf 37 391 157 3 (179 + 3) = true := by decide +kernel
theorem jR_eq {s s' : Nat} {w w' : cm_W} (h1 : w'.1 s' 1 = w.1 s 1) (h2 : ∀ i, i < 40 → w'.1 (s' + 1) i = w.1 (s + 1) i) (h3 : ∀ i, i < 40 → w'.1 (s' + 3) i = w.1 (s + 3) i) (h : jR s w) : jR s' w' := fun i hi a b c => by
  rw [h3 i hi]
  rw [h2 i hi] at b c
  rw [h1] at a
  exact h i hi a b c
theorem jR_hs {w : cm_W} (h : jR 106 w) : hs_Rs w := fun i hi a b => by
  have e := hb_E (w.1 106 1)
  have b' := hb_in b
  have c : 0 ≤ (w.1 109 i).toInt ∧ (w.1 109 i).toInt ≤ 5 := h i hi (by omega) (show 16 ≤ (w.1 107 i).toInt by omega) (show (w.1 107 i).toInt ≤ 17 by omega)
  exact hb_mk (by omega) (by omega)
theorem jcv_4_18 {w : cm_W} (hG : sv_w sg w) : ∃ w' : cm_W, cm_C 1 85 [.inr (.inr (some 4)), .inr (.inr (some 18))] w (none, w') ∧ sv_w sg w' ∧ (∀ k i, ¬ (4 ≤ k ∧ k ≤ 17) → w'.1 k i = w.1 k i) ∧ w'.1 4 4 = w.1 18 4 ∧ (∀ f, f < 4 → w'.1 12 f = w.1 26 f) := by
  have h : ∃ o, cm_C (0 + 1) 85 [.inr (.inr (some 4)), .inr (.inr (some 18))] w o ∧ (fun o : cm_O => ∃ w', o = (none, w') ∧ sv_w sg w' ∧ (∀ k i, ¬ (4 ≤ k ∧ k ≤ 17) → w'.1 k i = w.1 k i) ∧ w'.1 4 4 = w.1 18 4 ∧ (∀ f, f < 4 → w'.1 12 f = w.1 26 f)) o := by
    refine wk_entry (by rw [xm_6111ea63]; exact Nat.le_of_ble_eq_true rfl) ?_
    rw [show cm_ent 85 [.inr (.inr (some 4)), .inr (.inr (some 18))] = [some (.inr (.inr (some 4))), some (.inr (.inr (some 18)))] from by unfold cm_ent; rw [xm_6111ea63]; rfl]
    refine wk_aload_n xd_3a930f2e rfl ?_
    refine wk_aload_n xd_9c80cc4a rfl ?_
    refine wk_getI xf_fe5aec52 xd_4ec839a7 ?_
    refine wk_putI xf_a9ae451d (fun ci => wk_fitI ci) xd_c8a83ea6 ?_
    have hG1_ : sv_w sg (cm_u1 w 4 0 (w.1 18 0)) := sv_w_u1 hG (by rw [xg_c2ec6f90]; exact sv_in_top _)
    refine wk_aload_n xd_3a2a4c08 rfl ?_
    refine wk_aload_n xd_9c398f6c rfl ?_
    refine wk_getI xf_751247e4 xd_5d3993dc ?_
    refine wk_putI xf_8485ff38 (fun ci => wk_fitI ci) xd_d10589b6 ?_
    have hG2_ : sv_w sg (cm_u1 (cm_u1 w 4 0 (w.1 18 0)) 4 1 ((cm_u1 w 4 0 (w.1 18 0)).1 18 1)) := sv_w_u1 hG1_ (by rw [xg_2d2e04ae]; exact sv_in_top _)
    refine wk_aload_n xd_b94e31f1 rfl ?_
    refine wk_aload_n xd_1f5df295 rfl ?_
    refine wk_getI xf_caad3f7a xd_f36297ba ?_
    refine wk_putI xf_3926f0cd (fun ci => wk_fitI ci) xd_3164d5c2 ?_
    have hG3_ : sv_w sg (cm_u1 (cm_u1 (cm_u1 w 4 0 (w.1 18 0)) 4 1 ((cm_u1 w 4 0 (w.1 18 0)).1 18 1)) 4 2 ((cm_u1 (cm_u1 w 4 0 (w.1 18 0)) 4 1 ((cm_u1 w 4 0 (w.1 18 0)).1 18 1)).1 18 2)) := sv_w_u1 hG2_ (by rw [xg_c619bfad]; exact sv_in_top _)
    refine wk_aload_n xd_0cc64b30 rfl ?_
    refine wk_aload_n xd_aad58854 rfl ?_
    refine wk_getI xf_d2534648 xd_b7a1c6ec ?_
    refine wk_putI xf_88a1ca67 (fun ci => wk_fitI ci) xd_ec2b05ca ?_
    have hG4_ : sv_w sg (cm_u1 (cm_u1 (cm_u1 (cm_u1 w 4 0 (w.1 18 0)) 4 1 ((cm_u1 w 4 0 (w.1 18 0)).1 18 1)) 4 2 ((cm_u1 (cm_u1 w 4 0 (w.1 18 0)) 4 1 ((cm_u1 w 4 0 (w.1 18 0)).1 18 1)).1 18 2)) 4 3 ((cm_u1 (cm_u1 (cm_u1 w 4 0 (w.1 18 0)) 4 1 ((cm_u1 w 4 0 (w.1 18 0)).1 18 1)) 4 2 ((cm_u1 (cm_u1 w 4 0 (w.1 18 0)) 4 1 ((cm_u1 w 4 0 (w.1 18 0)).1 18 1)).1 18 2)).1 18 3)) := sv_w_u1 hG3_ (by have e := hG 18 3; rw [xg_a5e093b5] at e; rw [xg_edd1578a]; exact e)
    refine wk_aload_n xd_60295c6d rfl ?_
    refine wk_aload_n xd_c63a9f09 rfl ?_
    refine wk_getI xf_ab8e522b xd_72fa9a36 ?_
    refine wk_putI xf_0fb07bde (fun ci => wk_fitI ci) xd_fec6805c ?_
    have hG5_ : sv_w sg (cm_u1 (cm_u1 (cm_u1 (cm_u1 (cm_u1 w 4 0 (w.1 18 0)) 4 1 ((cm_u1 w 4 0 (w.1 18 0)).1 18 1)) 4 2 ((cm_u1 (cm_u1 w 4 0 (w.1 18 0)) 4 1 ((cm_u1 w 4 0 (w.1 18 0)).1 18 1)).1 18 2)) 4 3 ((cm_u1 (cm_u1 (cm_u1 w 4 0 (w.1 18 0)) 4 1 ((cm_u1 w 4 0 (w.1 18 0)).1 18 1)) 4 2 ((cm_u1 (cm_u1 w 4 0 (w.1 18 0)) 4 1 ((cm_u1 w 4 0 (w.1 18 0)).1 18 1)).1 18 2)).1 18 3)) 4 4 ((cm_u1 (cm_u1 (cm_u1 (cm_u1 w 4 0 (w.1 18 0)) 4 1 ((cm_u1 w 4 0 (w.1 18 0)).1 18 1)) 4 2 ((cm_u1 (cm_u1 w 4 0 (w.1 18 0)) 4 1 ((cm_u1 w 4 0 (w.1 18 0)).1 18 1)).1 18 2)) 4 3 ((cm_u1 (cm_u1 (cm_u1 w 4 0 (w.1 18 0)) 4 1 ((cm_u1 w 4 0 (w.1 18 0)).1 18 1)) 4 2 ((cm_u1 (cm_u1 w 4 0 (w.1 18 0)) 4 1 ((cm_u1 w 4 0 (w.1 18 0)).1 18 1)).1 18 2)).1 18 3)).1 18 4)) := sv_w_u1 hG4_ (by have e := hG 18 4; rw [xg_f7b3c760] at e; rw [xg_bf82035f]; exact e)
    refine wk_aload_n xd_bca7b8f3 rfl ?_
    refine wk_aload_n xd_1ab47b97 rfl ?_
    refine wk_getI xf_b8424b19 xd_39724907 ?_
    refine wk_putI xf_578860bb (fun ci => wk_fitI ci) xd_4ef31996 ?_
    have hG6_ : sv_w sg (cm_u1 (cm_u1 (cm_u1 (cm_u1 (cm_u1 (cm_u1 w 4 0 (w.1 18 0)) 4 1 ((cm_u1 w 4 0 (w.1 18 0)).1 18 1)) 4 2 ((cm_u1 (cm_u1 w 4 0 (w.1 18 0)) 4 1 ((cm_u1 w 4 0 (w.1 18 0)).1 18 1)).1 18 2)) 4 3 ((cm_u1 (cm_u1 (cm_u1 w 4 0 (w.1 18 0)) 4 1 ((cm_u1 w 4 0 (w.1 18 0)).1 18 1)) 4 2 ((cm_u1 (cm_u1 w 4 0 (w.1 18 0)) 4 1 ((cm_u1 w 4 0 (w.1 18 0)).1 18 1)).1 18 2)).1 18 3)) 4 4 ((cm_u1 (cm_u1 (cm_u1 (cm_u1 w 4 0 (w.1 18 0)) 4 1 ((cm_u1 w 4 0 (w.1 18 0)).1 18 1)) 4 2 ((cm_u1 (cm_u1 w 4 0 (w.1 18 0)) 4 1 ((cm_u1 w 4 0 (w.1 18 0)).1 18 1)).1 18 2)) 4 3 ((cm_u1 (cm_u1 (cm_u1 w 4 0 (w.1 18 0)) 4 1 ((cm_u1 w 4 0 (w.1 18 0)).1 18 1)) 4 2 ((cm_u1 (cm_u1 w 4 0 (w.1 18 0)) 4 1 ((cm_u1 w 4 0 (w.1 18 0)).1 18 1)).1 18 2)).1 18 3)).1 18 4)) 4 5 ((cm_u1 (cm_u1 (cm_u1 (cm_u1 (cm_u1 w 4 0 (w.1 18 0)) 4 1 ((cm_u1 w 4 0 (w.1 18 0)).1 18 1)) 4 2 ((cm_u1 (cm_u1 w 4 0 (w.1 18 0)) 4 1 ((cm_u1 w 4 0 (w.1 18 0)).1 18 1)).1 18 2)) 4 3 ((cm_u1 (cm_u1 (cm_u1 w 4 0 (w.1 18 0)) 4 1 ((cm_u1 w 4 0 (w.1 18 0)).1 18 1)) 4 2 ((cm_u1 (cm_u1 w 4 0 (w.1 18 0)) 4 1 ((cm_u1 w 4 0 (w.1 18 0)).1 18 1)).1 18 2)).1 18 3)) 4 4 ((cm_u1 (cm_u1 (cm_u1 (cm_u1 w 4 0 (w.1 18 0)) 4 1 ((cm_u1 w 4 0 (w.1 18 0)).1 18 1)) 4 2 ((cm_u1 (cm_u1 w 4 0 (w.1 18 0)) 4 1 ((cm_u1 w 4 0 (w.1 18 0)).1 18 1)).1 18 2)) 4 3 ((cm_u1 (cm_u1 (cm_u1 w 4 0 (w.1 18 0)) 4 1 ((cm_u1 w 4 0 (w.1 18 0)).1 18 1)) 4 2 ((cm_u1 (cm_u1 w 4 0 (w.1 18 0)) 4 1 ((cm_u1 w 4 0 (w.1 18 0)).1 18 1)).1 18 2)).1 18 3)).1 18 4)).1 18 5)) := sv_w_u1 hG5_ (by have e := hG 18 5; rw [xg_a05c9dfb] at e; rw [xg_e86d59c4]; exact e)
    refine wk_aload_n xd_bc1efbd5 rfl ?_
    refine wk_aload_n xd_1a0d38b1 rfl ?_
    refine wk_getI xf_8b6f76e4 xd_88457819 ?_
    refine wk_putI xf_ab12ff10 (fun ci => wk_fitI ci) xd_04796273 ?_
    have hG7_ : sv_w sg (cm_u1 (cm_u1 (cm_u1 (cm_u1 (cm_u1 (cm_u1 (cm_u1 w 4 0 (w.1 18 0)) 4 1 ((cm_u1 w 4 0 (w.1 18 0)).1 18 1)) 4 2 ((cm_u1 (cm_u1 w 4 0 (w.1 18 0)) 4 1 ((cm_u1 w 4 0 (w.1 18 0)).1 18 1)).1 18 2)) 4 3 ((cm_u1 (cm_u1 (cm_u1 w 4 0 (w.1 18 0)) 4 1 ((cm_u1 w 4 0 (w.1 18 0)).1 18 1)) 4 2 ((cm_u1 (cm_u1 w 4 0 (w.1 18 0)) 4 1 ((cm_u1 w 4 0 (w.1 18 0)).1 18 1)).1 18 2)).1 18 3)) 4 4 ((cm_u1 (cm_u1 (cm_u1 (cm_u1 w 4 0 (w.1 18 0)) 4 1 ((cm_u1 w 4 0 (w.1 18 0)).1 18 1)) 4 2 ((cm_u1 (cm_u1 w 4 0 (w.1 18 0)) 4 1 ((cm_u1 w 4 0 (w.1 18 0)).1 18 1)).1 18 2)) 4 3 ((cm_u1 (cm_u1 (cm_u1 w 4 0 (w.1 18 0)) 4 1 ((cm_u1 w 4 0 (w.1 18 0)).1 18 1)) 4 2 ((cm_u1 (cm_u1 w 4 0 (w.1 18 0)) 4 1 ((cm_u1 w 4 0 (w.1 18 0)).1 18 1)).1 18 2)).1 18 3)).1 18 4)) 4 5 ((cm_u1 (cm_u1 (cm_u1 (cm_u1 (cm_u1 w 4 0 (w.1 18 0)) 4 1 ((cm_u1 w 4 0 (w.1 18 0)).1 18 1)) 4 2 ((cm_u1 (cm_u1 w 4 0 (w.1 18 0)) 4 1 ((cm_u1 w 4 0 (w.1 18 0)).1 18 1)).1 18 2)) 4 3 ((cm_u1 (cm_u1 (cm_u1 w 4 0 (w.1 18 0)) 4 1 ((cm_u1 w 4 0 (w.1 18 0)).1 18 1)) 4 2 ((cm_u1 (cm_u1 w 4 0 (w.1 18 0)) 4 1 ((cm_u1 w 4 0 (w.1 18 0)).1 18 1)).1 18 2)).1 18 3)) 4 4 ((cm_u1 (cm_u1 (cm_u1 (cm_u1 w 4 0 (w.1 18 0)) 4 1 ((cm_u1 w 4 0 (w.1 18 0)).1 18 1)) 4 2 ((cm_u1 (cm_u1 w 4 0 (w.1 18 0)) 4 1 ((cm_u1 w 4 0 (w.1 18 0)).1 18 1)).1 18 2)) 4 3 ((cm_u1 (cm_u1 (cm_u1 w 4 0 (w.1 18 0)) 4 1 ((cm_u1 w 4 0 (w.1 18 0)).1 18 1)) 4 2 ((cm_u1 (cm_u1 w 4 0 (w.1 18 0)) 4 1 ((cm_u1 w 4 0 (w.1 18 0)).1 18 1)).1 18 2)).1 18 3)).1 18 4)).1 18 5)) 4 6 ((cm_u1 (cm_u1 (cm_u1 (cm_u1 (cm_u1 (cm_u1 w 4 0 (w.1 18 0)) 4 1 ((cm_u1 w 4 0 (w.1 18 0)).1 18 1)) 4 2 ((cm_u1 (cm_u1 w 4 0 (w.1 18 0)) 4 1 ((cm_u1 w 4 0 (w.1 18 0)).1 18 1)).1 18 2)) 4 3 ((cm_u1 (cm_u1 (cm_u1 w 4 0 (w.1 18 0)) 4 1 ((cm_u1 w 4 0 (w.1 18 0)).1 18 1)) 4 2 ((cm_u1 (cm_u1 w 4 0 (w.1 18 0)) 4 1 ((cm_u1 w 4 0 (w.1 18 0)).1 18 1)).1 18 2)).1 18 3)) 4 4 ((cm_u1 (cm_u1 (cm_u1 (cm_u1 w 4 0 (w.1 18 0)) 4 1 ((cm_u1 w 4 0 (w.1 18 0)).1 18 1)) 4 2 ((cm_u1 (cm_u1 w 4 0 (w.1 18 0)) 4 1 ((cm_u1 w 4 0 (w.1 18 0)).1 18 1)).1 18 2)) 4 3 ((cm_u1 (cm_u1 (cm_u1 w 4 0 (w.1 18 0)) 4 1 ((cm_u1 w 4 0 (w.1 18 0)).1 18 1)) 4 2 ((cm_u1 (cm_u1 w 4 0 (w.1 18 0)) 4 1 ((cm_u1 w 4 0 (w.1 18 0)).1 18 1)).1 18 2)).1 18 3)).1 18 4)) 4 5 ((cm_u1 (cm_u1 (cm_u1 (cm_u1 (cm_u1 w 4 0 (w.1 18 0)) 4 1 ((cm_u1 w 4 0 (w.1 18 0)).1 18 1)) 4 2 ((cm_u1 (cm_u1 w 4 0 (w.1 18 0)) 4 1 ((cm_u1 w 4 0 (w.1 18 0)).1 18 1)).1 18 2)) 4 3 ((cm_u1 (cm_u1 (cm_u1 w 4 0 (w.1 18 0)) 4 1 ((cm_u1 w 4 0 (w.1 18 0)).1 18 1)) 4 2 ((cm_u1 (cm_u1 w 4 0 (w.1 18 0)) 4 1 ((cm_u1 w 4 0 (w.1 18 0)).1 18 1)).1 18 2)).1 18 3)) 4 4 ((cm_u1 (cm_u1 (cm_u1 (cm_u1 w 4 0 (w.1 18 0)) 4 1 ((cm_u1 w 4 0 (w.1 18 0)).1 18 1)) 4 2 ((cm_u1 (cm_u1 w 4 0 (w.1 18 0)) 4 1 ((cm_u1 w 4 0 (w.1 18 0)).1 18 1)).1 18 2)) 4 3 ((cm_u1 (cm_u1 (cm_u1 w 4 0 (w.1 18 0)) 4 1 ((cm_u1 w 4 0 (w.1 18 0)).1 18 1)) 4 2 ((cm_u1 (cm_u1 w 4 0 (w.1 18 0)) 4 1 ((cm_u1 w 4 0 (w.1 18 0)).1 18 1)).1 18 2)).1 18 3)).1 18 4)).1 18 5)).1 18 6)) := sv_w_u1 hG6_ (by have e := hG 18 6; rw [xg_0e37d5d0] at e; rw [xg_460611ef]; exact e)
    refine wk_aload_n xd_ed28861e rfl ?_
    refine wk_getR xf_ffddefbf xd_65ccc16c ?_
    refine wk_iconst xd_d49c0471 ?_
    refine wk_aload_n xd_feef9e28 rfl ?_
    refine wk_getR xf_4830a2fe xd_c9adf661 ?_
    refine wk_iconst xd_9f15f3b1 ?_
    refine wk_bipush xd_c973f46b ?_
    refine aw_acp (n := 16) xl_a21f840f xf_9eae36c8 (by decide) (by decide) (by decide) rfl xd_b94e89d6 ?_
    refine wk_aload_n xd_42aad2bf rfl ?_
    refine wk_getR xf_27494659 xd_eb40bdf7 ?_
    refine wk_iconst xd_04661965 ?_
    refine wk_aload_n xd_097363a1 rfl ?_
    refine wk_getR xf_a82694e1 xd_b5766702 ?_
    refine wk_iconst xd_39ef352d ?_
    refine wk_iconst xd_db47f72d ?_
    refine aw_acp (n := 16) xl_a21f840f xf_14fe14c8 (by decide) (by decide) (by decide) rfl xd_60a9aa0d ?_
    refine wk_aload_n xd_a1e378e5 rfl ?_
    refine wk_getR xf_8ba7e6e2 xd_6c53e229 ?_
    refine wk_iconst xd_978477ed ?_
    refine wk_aload_n xd_86897f35 rfl ?_
    refine wk_getR xf_92b4c56e xd_451eb816 ?_
    refine wk_iconst xd_fe3d4cf9 ?_
    refine wk_bipush xd_860b82a3 ?_
    refine aw_acp (n := 16) xl_a21f840f xf_3f6ce51d (by decide) (by decide) (by decide) rfl xd_68a0f2f0 ?_
    refine wk_aload_n xd_4e134f37 rfl ?_
    refine wk_getR xf_8917ae46 xd_45a6f506 ?_
    refine wk_iconst xd_0be0a9ae ?_
    refine wk_aload_n xd_e85c2dc0 rfl ?_
    refine wk_getR xf_9b86501f xd_8bf609ae ?_
    refine wk_iconst xd_f92a786e ?_
    refine wk_bipush xd_a32c7ae0 ?_
    refine aw_acp (n := 16) xl_a21f840f xf_0c4ceee9 (by decide) (by decide) (by decide) rfl xd_008faa78 ?_
    refine wk_aload_n xd_54196157 rfl ?_
    refine wk_getR xf_d3c25e35 xd_a91b4238 ?_
    refine wk_iconst xd_625992ba ?_
    refine wk_aload_n xd_aa48aa88 rfl ?_
    refine wk_getR xf_df7315c6 xd_951c5368 ?_
    refine wk_iconst xd_e6767a47 ?_
    refine wk_bipush xd_9e40b41d ?_
    refine aw_acp (n := 16) xl_a21f840f xf_7fb2a6fd (by decide) (by decide) (by decide) rfl xd_70473495 ?_
    refine wk_aload_n xd_160de61f rfl ?_
    refine wk_getR xf_0a521cd5 xd_ce8d174b ?_
    refine wk_iconst xd_7d059093 ?_
    refine wk_aload_n xd_b04284e8 rfl ?_
    refine wk_getR xf_f431f81b xd_00ddebe3 ?_
    refine wk_iconst xd_8fcf4153 ?_
    refine wk_bipush xd_380331a7 ?_
    refine aw_acp (n := 16) xl_a21f840f xf_844013d6 (by decide) (by decide) (by decide) rfl xd_cd6cc550 ?_
    refine wk_aload_n xd_bc3a9a2f rfl ?_
    refine wk_getR xf_26db96bd xd_6a3e4cd5 ?_
    refine wk_iconst xd_f976d9fd ?_
    refine wk_aload_n xd_9b509dff rfl ?_
    refine wk_getR xf_cbd8d49d xd_437316ea ?_
    refine wk_iconst xd_90cfe2e9 ?_
    refine wk_iconst xd_726720e9 ?_
    refine aw_acp (n := 16) xl_a21f840f xf_afd2e203 (by decide) (by decide) (by decide) rfl xd_a6624489 ?_
    refine wk_aload_n xd_3dfa1dbd rfl ?_
    refine wk_getR xf_20158e59 xd_ec3fafad ?_
    refine wk_iconst xd_83f3e594 ?_
    refine wk_aload_n xd_c3129544 rfl ?_
    refine wk_getR xf_a44a15d8 xd_b2097558 ?_
    refine wk_iconst xd_03c86ed4 ?_
    refine wk_iconst xd_e160acd4 ?_
    refine aw_acp (n := 16) xl_a21f840f xf_3bd03a3f (by decide) (by decide) (by decide) rfl xd_4fc25200 ?_
    refine wk_aload_n xd_09ee417d rfl ?_
    refine wk_getR xf_d0f7021a xd_e08a1108 ?_
    refine wk_iconst xd_44219c40 ?_
    refine wk_aload_n xd_42d212d6 rfl ?_
    refine wk_getR xf_26a8dd70 xd_92b7584a ?_
    refine wk_iconst xd_79a8b008 ?_
    refine wk_bipush xd_019e7e52 ?_
    refine aw_acp (n := 16) xl_a21f840f xf_1042cbea (by decide) (by decide) (by decide) rfl xd_f6ff5ecc ?_
    refine wk_aload_n xd_9ca730af rfl ?_
    refine wk_getR xf_3f32c7ec xd_d7bd81a0 ?_
    refine wk_iconst xd_e2db5adc ?_
    refine wk_aload_n xd_56be0623 rfl ?_
    refine wk_getR xf_43c8776c xd_429d6e75 ?_
    refine wk_iconst xd_a952ad1c ?_
    refine wk_bipush xd_a6fa8f7c ?_
    refine aw_acp (n := 16) xl_a21f840f xf_0b90b7f5 (by decide) (by decide) (by decide) rfl xd_e9c8c24b ?_
    refine wk_aload_n xd_0d1bc059 rfl ?_
    refine wk_getR xf_13e7ec17 xd_049db24d ?_
    refine wk_iconst xd_6a86adc6 ?_
    refine wk_aload_n xd_462793f2 rfl ?_
    refine wk_getR xf_2080c8ea xd_76a0fb0f ?_
    refine wk_iconst xd_ba7cb0d2 ?_
    refine wk_bipush xd_37467f8a ?_
    refine aw_acp (n := 16) xl_a21f840f xf_11399dc0 (by decide) (by decide) (by decide) rfl xd_e1c19ab6 ?_
    refine wk_aload_n xd_fa62df65 rfl ?_
    refine wk_getR xf_3863c9d5 xd_e8c1522d ?_
    refine wk_iconst xd_cc9989ef ?_
    refine wk_aload_n xd_e94025e6 rfl ?_
    refine wk_getR xf_a5624365 xd_68abf697 ?_
    refine wk_iconst xd_87107e2f ?_
    refine wk_bipush xd_1904acb9 ?_
    refine aw_acp (n := 16) xl_a21f840f xf_550ee2ec (by decide) (by decide) (by decide) rfl xd_ad69e753 ?_
    refine wk_aload_n xd_55056971 rfl ?_
    refine wk_getR xf_14b6e22e xd_c8162ad0 ?_
    refine wk_iconst xd_1c6394fb ?_
    refine wk_aload_n xd_1e393ada rfl ?_
    refine wk_getR xf_c62afce3 xd_ba2b6392 ?_
    refine wk_iconst xd_2153fb95 ?_
    refine wk_bipush xd_df6584f2 ?_
    refine aw_acp (n := 16) xl_a21f840f xf_4fa7c8d9 (by decide) (by decide) (by decide) rfl xd_2c22f59e ?_
    refine wk_return xd_8a066d7b xr_59ac3bf1 ⟨_, rfl, (aw_cpG xf_0e78b82c (aw_cpG xf_c5246b89 (aw_cpG2 xf_d8135c1e (aw_cpG2 xf_16efb760 (aw_cpG xf_95e9fa3a (aw_cpG xf_5eb5299f (aw_cpG xf_d8215b31 (aw_cpG xf_137d8894 (aw_cpG xf_01ec1de5 (aw_cpG xf_cab0ce40 (aw_cpG xf_3be67c95 (aw_cpG xf_f0baaf30 (aw_cpG xf_762edd9e hG7_))))))))))))), fun k i hk => ?_, ?_, fun f hf => ?_⟩
    · rw [aw_cp_o (by omega), aw_cp_o (by omega), aw_cp_o (by omega), aw_cp_o (by omega), aw_cp_o (by omega), aw_cp_o (by omega), aw_cp_o (by omega), aw_cp_o (by omega), aw_cp_o (by omega), aw_cp_o (by omega), aw_cp_o (by omega), aw_cp_o (by omega), aw_cp_o (by omega), hs_u1_ne (by omega), hs_u1_ne (by omega), hs_u1_ne (by omega), hs_u1_ne (by omega), hs_u1_ne (by omega), hs_u1_ne (by omega), hs_u1_ne (by omega)]
    · rw [aw_cp_o (by omega), aw_cp_o (by omega), aw_cp_o (by omega), aw_cp_o (by omega), aw_cp_o (by omega), aw_cp_o (by omega), aw_cp_o (by omega), aw_cp_o (by omega), aw_cp_o (by omega), aw_cp_o (by omega), aw_cp_o (by omega), aw_cp_o (by omega), aw_cp_o (by omega), hs_u1_ne (by omega), hs_u1_ne (by omega), hs_u1_self, hs_u1_ne (by omega), hs_u1_ne (by omega), hs_u1_ne (by omega), hs_u1_ne (by omega)]
    · rw [aw_cp_o (by omega), aw_cp_o (by omega), aw_cp_o (by omega), aw_cp_o (by omega), aw_cp_o (by omega), aw_cp_i (by omega), aw_cp_o (by omega), aw_cp_o (by omega), aw_cp_o (by omega), aw_cp_o (by omega), aw_cp_o (by omega), aw_cp_o (by omega), aw_cp_o (by omega), hs_u1_ne (by omega), hs_u1_ne (by omega), hs_u1_ne (by omega), hs_u1_ne (by omega), hs_u1_ne (by omega), hs_u1_ne (by omega), hs_u1_ne (by omega)]
  obtain ⟨o, hC, w', rfl, a⟩ := h
  exact ⟨w', hC, a⟩
theorem jcv_131_4 {w : cm_W} (hG : sv_w sg w) : ∃ w' : cm_W, cm_C 1 85 [.inr (.inr (some 131)), .inr (.inr (some 4))] w (none, w') ∧ sv_w sg w' ∧ (∀ k i, ¬ (131 ≤ k ∧ k ≤ 144) → w'.1 k i = w.1 k i) ∧ w'.1 131 4 = w.1 4 4 ∧ (∀ f, f < 4 → w'.1 139 f = w.1 12 f) := by
  have h : ∃ o, cm_C (0 + 1) 85 [.inr (.inr (some 131)), .inr (.inr (some 4))] w o ∧ (fun o : cm_O => ∃ w', o = (none, w') ∧ sv_w sg w' ∧ (∀ k i, ¬ (131 ≤ k ∧ k ≤ 144) → w'.1 k i = w.1 k i) ∧ w'.1 131 4 = w.1 4 4 ∧ (∀ f, f < 4 → w'.1 139 f = w.1 12 f)) o := by
    refine wk_entry (by rw [xm_6111ea63]; exact Nat.le_of_ble_eq_true rfl) ?_
    rw [show cm_ent 85 [.inr (.inr (some 131)), .inr (.inr (some 4))] = [some (.inr (.inr (some 131))), some (.inr (.inr (some 4)))] from by unfold cm_ent; rw [xm_6111ea63]; rfl]
    refine wk_aload_n xd_3a930f2e rfl ?_
    refine wk_aload_n xd_9c80cc4a rfl ?_
    refine wk_getI xf_a82c48ab xd_4ec839a7 ?_
    refine wk_putI xf_910c926e (fun ci => wk_fitI ci) xd_c8a83ea6 ?_
    have hG1_ : sv_w sg (cm_u1 w 131 0 (w.1 4 0)) := sv_w_u1 hG (by rw [xg_3d5e8930]; exact sv_in_top _)
    refine wk_aload_n xd_3a2a4c08 rfl ?_
    refine wk_aload_n xd_9c398f6c rfl ?_
    refine wk_getI xf_a6866b8c xd_5d3993dc ?_
    refine wk_putI xf_262c1261 (fun ci => wk_fitI ci) xd_d10589b6 ?_
    have hG2_ : sv_w sg (cm_u1 (cm_u1 w 131 0 (w.1 4 0)) 131 1 ((cm_u1 w 131 0 (w.1 4 0)).1 4 1)) := sv_w_u1 hG1_ (by rw [xg_d29ce20e]; exact sv_in_top _)
    refine wk_aload_n xd_b94e31f1 rfl ?_
    refine wk_aload_n xd_1f5df295 rfl ?_
    refine wk_getI xf_1b256479 xd_f36297ba ?_
    refine wk_putI xf_43f1ce58 (fun ci => wk_fitI ci) xd_3164d5c2 ?_
    have hG3_ : sv_w sg (cm_u1 (cm_u1 (cm_u1 w 131 0 (w.1 4 0)) 131 1 ((cm_u1 w 131 0 (w.1 4 0)).1 4 1)) 131 2 ((cm_u1 (cm_u1 w 131 0 (w.1 4 0)) 131 1 ((cm_u1 w 131 0 (w.1 4 0)).1 4 1)).1 4 2)) := sv_w_u1 hG2_ (by rw [xg_39ab590d]; exact sv_in_top _)
    refine wk_aload_n xd_0cc64b30 rfl ?_
    refine wk_aload_n xd_aad58854 rfl ?_
    refine wk_getI xf_aaa25ed3 xd_b7a1c6ec ?_
    refine wk_putI xf_a572d55f (fun ci => wk_fitI ci) xd_ec2b05ca ?_
    have hG4_ : sv_w sg (cm_u1 (cm_u1 (cm_u1 (cm_u1 w 131 0 (w.1 4 0)) 131 1 ((cm_u1 w 131 0 (w.1 4 0)).1 4 1)) 131 2 ((cm_u1 (cm_u1 w 131 0 (w.1 4 0)) 131 1 ((cm_u1 w 131 0 (w.1 4 0)).1 4 1)).1 4 2)) 131 3 ((cm_u1 (cm_u1 (cm_u1 w 131 0 (w.1 4 0)) 131 1 ((cm_u1 w 131 0 (w.1 4 0)).1 4 1)) 131 2 ((cm_u1 (cm_u1 w 131 0 (w.1 4 0)) 131 1 ((cm_u1 w 131 0 (w.1 4 0)).1 4 1)).1 4 2)).1 4 3)) := sv_w_u1 hG3_ (by have e := hG 4 3; rw [xg_edd1578a] at e; rw [xg_46b7462b]; exact e)
    refine wk_aload_n xd_60295c6d rfl ?_
    refine wk_aload_n xd_c63a9f09 rfl ?_
    refine wk_getI xf_2db3ef6a xd_72fa9a36 ?_
    refine wk_putI xf_ba573653 (fun ci => wk_fitI ci) xd_fec6805c ?_
    have hG5_ : sv_w sg (cm_u1 (cm_u1 (cm_u1 (cm_u1 (cm_u1 w 131 0 (w.1 4 0)) 131 1 ((cm_u1 w 131 0 (w.1 4 0)).1 4 1)) 131 2 ((cm_u1 (cm_u1 w 131 0 (w.1 4 0)) 131 1 ((cm_u1 w 131 0 (w.1 4 0)).1 4 1)).1 4 2)) 131 3 ((cm_u1 (cm_u1 (cm_u1 w 131 0 (w.1 4 0)) 131 1 ((cm_u1 w 131 0 (w.1 4 0)).1 4 1)) 131 2 ((cm_u1 (cm_u1 w 131 0 (w.1 4 0)) 131 1 ((cm_u1 w 131 0 (w.1 4 0)).1 4 1)).1 4 2)).1 4 3)) 131 4 ((cm_u1 (cm_u1 (cm_u1 (cm_u1 w 131 0 (w.1 4 0)) 131 1 ((cm_u1 w 131 0 (w.1 4 0)).1 4 1)) 131 2 ((cm_u1 (cm_u1 w 131 0 (w.1 4 0)) 131 1 ((cm_u1 w 131 0 (w.1 4 0)).1 4 1)).1 4 2)) 131 3 ((cm_u1 (cm_u1 (cm_u1 w 131 0 (w.1 4 0)) 131 1 ((cm_u1 w 131 0 (w.1 4 0)).1 4 1)) 131 2 ((cm_u1 (cm_u1 w 131 0 (w.1 4 0)) 131 1 ((cm_u1 w 131 0 (w.1 4 0)).1 4 1)).1 4 2)).1 4 3)).1 4 4)) := sv_w_u1 hG4_ (by have e := hG 4 4; rw [xg_bf82035f] at e; rw [xg_14e412fe]; exact e)
    refine wk_aload_n xd_bca7b8f3 rfl ?_
    refine wk_aload_n xd_1ab47b97 rfl ?_
    refine wk_getI xf_758bf40f xd_39724907 ?_
    refine wk_putI xf_5cdf1f34 (fun ci => wk_fitI ci) xd_4ef31996 ?_
    have hG6_ : sv_w sg (cm_u1 (cm_u1 (cm_u1 (cm_u1 (cm_u1 (cm_u1 w 131 0 (w.1 4 0)) 131 1 ((cm_u1 w 131 0 (w.1 4 0)).1 4 1)) 131 2 ((cm_u1 (cm_u1 w 131 0 (w.1 4 0)) 131 1 ((cm_u1 w 131 0 (w.1 4 0)).1 4 1)).1 4 2)) 131 3 ((cm_u1 (cm_u1 (cm_u1 w 131 0 (w.1 4 0)) 131 1 ((cm_u1 w 131 0 (w.1 4 0)).1 4 1)) 131 2 ((cm_u1 (cm_u1 w 131 0 (w.1 4 0)) 131 1 ((cm_u1 w 131 0 (w.1 4 0)).1 4 1)).1 4 2)).1 4 3)) 131 4 ((cm_u1 (cm_u1 (cm_u1 (cm_u1 w 131 0 (w.1 4 0)) 131 1 ((cm_u1 w 131 0 (w.1 4 0)).1 4 1)) 131 2 ((cm_u1 (cm_u1 w 131 0 (w.1 4 0)) 131 1 ((cm_u1 w 131 0 (w.1 4 0)).1 4 1)).1 4 2)) 131 3 ((cm_u1 (cm_u1 (cm_u1 w 131 0 (w.1 4 0)) 131 1 ((cm_u1 w 131 0 (w.1 4 0)).1 4 1)) 131 2 ((cm_u1 (cm_u1 w 131 0 (w.1 4 0)) 131 1 ((cm_u1 w 131 0 (w.1 4 0)).1 4 1)).1 4 2)).1 4 3)).1 4 4)) 131 5 ((cm_u1 (cm_u1 (cm_u1 (cm_u1 (cm_u1 w 131 0 (w.1 4 0)) 131 1 ((cm_u1 w 131 0 (w.1 4 0)).1 4 1)) 131 2 ((cm_u1 (cm_u1 w 131 0 (w.1 4 0)) 131 1 ((cm_u1 w 131 0 (w.1 4 0)).1 4 1)).1 4 2)) 131 3 ((cm_u1 (cm_u1 (cm_u1 w 131 0 (w.1 4 0)) 131 1 ((cm_u1 w 131 0 (w.1 4 0)).1 4 1)) 131 2 ((cm_u1 (cm_u1 w 131 0 (w.1 4 0)) 131 1 ((cm_u1 w 131 0 (w.1 4 0)).1 4 1)).1 4 2)).1 4 3)) 131 4 ((cm_u1 (cm_u1 (cm_u1 (cm_u1 w 131 0 (w.1 4 0)) 131 1 ((cm_u1 w 131 0 (w.1 4 0)).1 4 1)) 131 2 ((cm_u1 (cm_u1 w 131 0 (w.1 4 0)) 131 1 ((cm_u1 w 131 0 (w.1 4 0)).1 4 1)).1 4 2)) 131 3 ((cm_u1 (cm_u1 (cm_u1 w 131 0 (w.1 4 0)) 131 1 ((cm_u1 w 131 0 (w.1 4 0)).1 4 1)) 131 2 ((cm_u1 (cm_u1 w 131 0 (w.1 4 0)) 131 1 ((cm_u1 w 131 0 (w.1 4 0)).1 4 1)).1 4 2)).1 4 3)).1 4 4)).1 4 5)) := sv_w_u1 hG5_ (by have e := hG 4 5; rw [xg_e86d59c4] at e; rw [xg_430b4865]; exact e)
    refine wk_aload_n xd_bc1efbd5 rfl ?_
    refine wk_aload_n xd_1a0d38b1 rfl ?_
    refine wk_getI xf_89116ba4 xd_88457819 ?_
    refine wk_putI xf_ed3561aa (fun ci => wk_fitI ci) xd_04796273 ?_
    have hG7_ : sv_w sg (cm_u1 (cm_u1 (cm_u1 (cm_u1 (cm_u1 (cm_u1 (cm_u1 w 131 0 (w.1 4 0)) 131 1 ((cm_u1 w 131 0 (w.1 4 0)).1 4 1)) 131 2 ((cm_u1 (cm_u1 w 131 0 (w.1 4 0)) 131 1 ((cm_u1 w 131 0 (w.1 4 0)).1 4 1)).1 4 2)) 131 3 ((cm_u1 (cm_u1 (cm_u1 w 131 0 (w.1 4 0)) 131 1 ((cm_u1 w 131 0 (w.1 4 0)).1 4 1)) 131 2 ((cm_u1 (cm_u1 w 131 0 (w.1 4 0)) 131 1 ((cm_u1 w 131 0 (w.1 4 0)).1 4 1)).1 4 2)).1 4 3)) 131 4 ((cm_u1 (cm_u1 (cm_u1 (cm_u1 w 131 0 (w.1 4 0)) 131 1 ((cm_u1 w 131 0 (w.1 4 0)).1 4 1)) 131 2 ((cm_u1 (cm_u1 w 131 0 (w.1 4 0)) 131 1 ((cm_u1 w 131 0 (w.1 4 0)).1 4 1)).1 4 2)) 131 3 ((cm_u1 (cm_u1 (cm_u1 w 131 0 (w.1 4 0)) 131 1 ((cm_u1 w 131 0 (w.1 4 0)).1 4 1)) 131 2 ((cm_u1 (cm_u1 w 131 0 (w.1 4 0)) 131 1 ((cm_u1 w 131 0 (w.1 4 0)).1 4 1)).1 4 2)).1 4 3)).1 4 4)) 131 5 ((cm_u1 (cm_u1 (cm_u1 (cm_u1 (cm_u1 w 131 0 (w.1 4 0)) 131 1 ((cm_u1 w 131 0 (w.1 4 0)).1 4 1)) 131 2 ((cm_u1 (cm_u1 w 131 0 (w.1 4 0)) 131 1 ((cm_u1 w 131 0 (w.1 4 0)).1 4 1)).1 4 2)) 131 3 ((cm_u1 (cm_u1 (cm_u1 w 131 0 (w.1 4 0)) 131 1 ((cm_u1 w 131 0 (w.1 4 0)).1 4 1)) 131 2 ((cm_u1 (cm_u1 w 131 0 (w.1 4 0)) 131 1 ((cm_u1 w 131 0 (w.1 4 0)).1 4 1)).1 4 2)).1 4 3)) 131 4 ((cm_u1 (cm_u1 (cm_u1 (cm_u1 w 131 0 (w.1 4 0)) 131 1 ((cm_u1 w 131 0 (w.1 4 0)).1 4 1)) 131 2 ((cm_u1 (cm_u1 w 131 0 (w.1 4 0)) 131 1 ((cm_u1 w 131 0 (w.1 4 0)).1 4 1)).1 4 2)) 131 3 ((cm_u1 (cm_u1 (cm_u1 w 131 0 (w.1 4 0)) 131 1 ((cm_u1 w 131 0 (w.1 4 0)).1 4 1)) 131 2 ((cm_u1 (cm_u1 w 131 0 (w.1 4 0)) 131 1 ((cm_u1 w 131 0 (w.1 4 0)).1 4 1)).1 4 2)).1 4 3)).1 4 4)).1 4 5)) 131 6 ((cm_u1 (cm_u1 (cm_u1 (cm_u1 (cm_u1 (cm_u1 w 131 0 (w.1 4 0)) 131 1 ((cm_u1 w 131 0 (w.1 4 0)).1 4 1)) 131 2 ((cm_u1 (cm_u1 w 131 0 (w.1 4 0)) 131 1 ((cm_u1 w 131 0 (w.1 4 0)).1 4 1)).1 4 2)) 131 3 ((cm_u1 (cm_u1 (cm_u1 w 131 0 (w.1 4 0)) 131 1 ((cm_u1 w 131 0 (w.1 4 0)).1 4 1)) 131 2 ((cm_u1 (cm_u1 w 131 0 (w.1 4 0)) 131 1 ((cm_u1 w 131 0 (w.1 4 0)).1 4 1)).1 4 2)).1 4 3)) 131 4 ((cm_u1 (cm_u1 (cm_u1 (cm_u1 w 131 0 (w.1 4 0)) 131 1 ((cm_u1 w 131 0 (w.1 4 0)).1 4 1)) 131 2 ((cm_u1 (cm_u1 w 131 0 (w.1 4 0)) 131 1 ((cm_u1 w 131 0 (w.1 4 0)).1 4 1)).1 4 2)) 131 3 ((cm_u1 (cm_u1 (cm_u1 w 131 0 (w.1 4 0)) 131 1 ((cm_u1 w 131 0 (w.1 4 0)).1 4 1)) 131 2 ((cm_u1 (cm_u1 w 131 0 (w.1 4 0)) 131 1 ((cm_u1 w 131 0 (w.1 4 0)).1 4 1)).1 4 2)).1 4 3)).1 4 4)) 131 5 ((cm_u1 (cm_u1 (cm_u1 (cm_u1 (cm_u1 w 131 0 (w.1 4 0)) 131 1 ((cm_u1 w 131 0 (w.1 4 0)).1 4 1)) 131 2 ((cm_u1 (cm_u1 w 131 0 (w.1 4 0)) 131 1 ((cm_u1 w 131 0 (w.1 4 0)).1 4 1)).1 4 2)) 131 3 ((cm_u1 (cm_u1 (cm_u1 w 131 0 (w.1 4 0)) 131 1 ((cm_u1 w 131 0 (w.1 4 0)).1 4 1)) 131 2 ((cm_u1 (cm_u1 w 131 0 (w.1 4 0)) 131 1 ((cm_u1 w 131 0 (w.1 4 0)).1 4 1)).1 4 2)).1 4 3)) 131 4 ((cm_u1 (cm_u1 (cm_u1 (cm_u1 w 131 0 (w.1 4 0)) 131 1 ((cm_u1 w 131 0 (w.1 4 0)).1 4 1)) 131 2 ((cm_u1 (cm_u1 w 131 0 (w.1 4 0)) 131 1 ((cm_u1 w 131 0 (w.1 4 0)).1 4 1)).1 4 2)) 131 3 ((cm_u1 (cm_u1 (cm_u1 w 131 0 (w.1 4 0)) 131 1 ((cm_u1 w 131 0 (w.1 4 0)).1 4 1)) 131 2 ((cm_u1 (cm_u1 w 131 0 (w.1 4 0)) 131 1 ((cm_u1 w 131 0 (w.1 4 0)).1 4 1)).1 4 2)).1 4 3)).1 4 4)).1 4 5)).1 4 6)) := sv_w_u1 hG6_ (by have e := hG 4 6; rw [xg_460611ef] at e; rw [xg_ed60004e]; exact e)
    refine wk_aload_n xd_ed28861e rfl ?_
    refine wk_getR xf_4830a2fe xd_65ccc16c ?_
    refine wk_iconst xd_d49c0471 ?_
    refine wk_aload_n xd_feef9e28 rfl ?_
    refine wk_getR xf_45541971 xd_c9adf661 ?_
    refine wk_iconst xd_9f15f3b1 ?_
    refine wk_bipush xd_c973f46b ?_
    refine aw_acp (n := 16) xl_a21f840f xf_1b26a8be (by decide) (by decide) (by decide) rfl xd_b94e89d6 ?_
    refine wk_aload_n xd_42aad2bf rfl ?_
    refine wk_getR xf_a82694e1 xd_eb40bdf7 ?_
    refine wk_iconst xd_04661965 ?_
    refine wk_aload_n xd_097363a1 rfl ?_
    refine wk_getR xf_d5b6c67d xd_b5766702 ?_
    refine wk_iconst xd_39ef352d ?_
    refine wk_iconst xd_db47f72d ?_
    refine aw_acp (n := 16) xl_a21f840f xf_477ba659 (by decide) (by decide) (by decide) rfl xd_60a9aa0d ?_
    refine wk_aload_n xd_a1e378e5 rfl ?_
    refine wk_getR xf_92b4c56e xd_6c53e229 ?_
    refine wk_iconst xd_978477ed ?_
    refine wk_aload_n xd_86897f35 rfl ?_
    refine wk_getR xf_f8695501 xd_451eb816 ?_
    refine wk_iconst xd_fe3d4cf9 ?_
    refine wk_bipush xd_860b82a3 ?_
    refine aw_acp (n := 16) xl_a21f840f xf_5980c907 (by decide) (by decide) (by decide) rfl xd_68a0f2f0 ?_
    refine wk_aload_n xd_4e134f37 rfl ?_
    refine wk_getR xf_9b86501f xd_45a6f506 ?_
    refine wk_iconst xd_0be0a9ae ?_
    refine wk_aload_n xd_e85c2dc0 rfl ?_
    refine wk_getR xf_6ee7fbc7 xd_8bf609ae ?_
    refine wk_iconst xd_f92a786e ?_
    refine wk_bipush xd_a32c7ae0 ?_
    refine aw_acp (n := 16) xl_a21f840f xf_c70bc7da (by decide) (by decide) (by decide) rfl xd_008faa78 ?_
    refine wk_aload_n xd_54196157 rfl ?_
    refine wk_getR xf_df7315c6 xd_a91b4238 ?_
    refine wk_iconst xd_625992ba ?_
    refine wk_aload_n xd_aa48aa88 rfl ?_
    refine wk_getR xf_ebc9f8a4 xd_951c5368 ?_
    refine wk_iconst xd_e6767a47 ?_
    refine wk_bipush xd_9e40b41d ?_
    refine aw_acp (n := 16) xl_a21f840f xf_0be07426 (by decide) (by decide) (by decide) rfl xd_70473495 ?_
    refine wk_aload_n xd_160de61f rfl ?_
    refine wk_getR xf_f431f81b xd_ce8d174b ?_
    refine wk_iconst xd_7d059093 ?_
    refine wk_aload_n xd_b04284e8 rfl ?_
    refine wk_getR xf_22227f30 xd_00ddebe3 ?_
    refine wk_iconst xd_8fcf4153 ?_
    refine wk_bipush xd_380331a7 ?_
    refine aw_acp (n := 16) xl_a21f840f xf_b96111c1 (by decide) (by decide) (by decide) rfl xd_cd6cc550 ?_
    refine wk_aload_n xd_bc3a9a2f rfl ?_
    refine wk_getR xf_cbd8d49d xd_6a3e4cd5 ?_
    refine wk_iconst xd_f976d9fd ?_
    refine wk_aload_n xd_9b509dff rfl ?_
    refine wk_getR xf_2450e04c xd_437316ea ?_
    refine wk_iconst xd_90cfe2e9 ?_
    refine wk_iconst xd_726720e9 ?_
    refine aw_acp (n := 16) xl_a21f840f xf_b27116bf (by decide) (by decide) (by decide) rfl xd_a6624489 ?_
    refine wk_aload_n xd_3dfa1dbd rfl ?_
    refine wk_getR xf_a44a15d8 xd_ec3fafad ?_
    refine wk_iconst xd_83f3e594 ?_
    refine wk_aload_n xd_c3129544 rfl ?_
    refine wk_getR xf_6ad57aef xd_b2097558 ?_
    refine wk_iconst xd_03c86ed4 ?_
    refine wk_iconst xd_e160acd4 ?_
    refine aw_acp (n := 16) xl_a21f840f xf_a1d3ebe0 (by decide) (by decide) (by decide) rfl xd_4fc25200 ?_
    refine wk_aload_n xd_09ee417d rfl ?_
    refine wk_getR xf_26a8dd70 xd_e08a1108 ?_
    refine wk_iconst xd_44219c40 ?_
    refine wk_aload_n xd_42d212d6 rfl ?_
    refine wk_getR xf_369c14b9 xd_92b7584a ?_
    refine wk_iconst xd_79a8b008 ?_
    refine wk_bipush xd_019e7e52 ?_
    refine aw_acp (n := 16) xl_a21f840f xf_d9c0f931 (by decide) (by decide) (by decide) rfl xd_f6ff5ecc ?_
    refine wk_aload_n xd_9ca730af rfl ?_
    refine wk_getR xf_43c8776c xd_d7bd81a0 ?_
    refine wk_iconst xd_e2db5adc ?_
    refine wk_aload_n xd_56be0623 rfl ?_
    refine wk_getR xf_5fbacaab xd_429d6e75 ?_
    refine wk_iconst xd_a952ad1c ?_
    refine wk_bipush xd_a6fa8f7c ?_
    refine aw_acp (n := 16) xl_a21f840f xf_8e3597a5 (by decide) (by decide) (by decide) rfl xd_e9c8c24b ?_
    refine wk_aload_n xd_0d1bc059 rfl ?_
    refine wk_getR xf_2080c8ea xd_049db24d ?_
    refine wk_iconst xd_6a86adc6 ?_
    refine wk_aload_n xd_462793f2 rfl ?_
    refine wk_getR xf_38cfa6d7 xd_76a0fb0f ?_
    refine wk_iconst xd_ba7cb0d2 ?_
    refine wk_bipush xd_37467f8a ?_
    refine aw_acp (n := 16) xl_a21f840f xf_40a02d57 (by decide) (by decide) (by decide) rfl xd_e1c19ab6 ?_
    refine wk_aload_n xd_fa62df65 rfl ?_
    refine wk_getR xf_a5624365 xd_e8c1522d ?_
    refine wk_iconst xd_cc9989ef ?_
    refine wk_aload_n xd_e94025e6 rfl ?_
    refine wk_getR xf_3a6b8105 xd_68abf697 ?_
    refine wk_iconst xd_87107e2f ?_
    refine wk_bipush xd_1904acb9 ?_
    refine aw_acp (n := 16) xl_a21f840f xf_bb67c3cf (by decide) (by decide) (by decide) rfl xd_ad69e753 ?_
    refine wk_aload_n xd_55056971 rfl ?_
    refine wk_getR xf_c62afce3 xd_c8162ad0 ?_
    refine wk_iconst xd_1c6394fb ?_
    refine wk_aload_n xd_1e393ada rfl ?_
    refine wk_getR xf_9da787ef xd_ba2b6392 ?_
    refine wk_iconst xd_2153fb95 ?_
    refine wk_bipush xd_df6584f2 ?_
    refine aw_acp (n := 16) xl_a21f840f xf_06fa5ef2 (by decide) (by decide) (by decide) rfl xd_2c22f59e ?_
    refine wk_return xd_8a066d7b xr_59ac3bf1 ⟨_, rfl, (aw_cpG xf_685c70c9 (aw_cpG xf_75594071 (aw_cpG2 xf_4c494f7b (aw_cpG2 xf_2a331594 (aw_cpG xf_f3cd32df (aw_cpG xf_11655d99 (aw_cpG xf_da398e3c (aw_cpG xf_2b6f3ce9 (aw_cpG xf_e033ef4c (aw_cpG xf_66a79de2 (aw_cpG xf_adfb4e47 (aw_cpG xf_b0fe7eff (aw_cpG xf_7ba2ad5a hG7_))))))))))))), fun k i hk => ?_, ?_, fun f hf => ?_⟩
    · rw [aw_cp_o (by omega), aw_cp_o (by omega), aw_cp_o (by omega), aw_cp_o (by omega), aw_cp_o (by omega), aw_cp_o (by omega), aw_cp_o (by omega), aw_cp_o (by omega), aw_cp_o (by omega), aw_cp_o (by omega), aw_cp_o (by omega), aw_cp_o (by omega), aw_cp_o (by omega), hs_u1_ne (by omega), hs_u1_ne (by omega), hs_u1_ne (by omega), hs_u1_ne (by omega), hs_u1_ne (by omega), hs_u1_ne (by omega), hs_u1_ne (by omega)]
    · rw [aw_cp_o (by omega), aw_cp_o (by omega), aw_cp_o (by omega), aw_cp_o (by omega), aw_cp_o (by omega), aw_cp_o (by omega), aw_cp_o (by omega), aw_cp_o (by omega), aw_cp_o (by omega), aw_cp_o (by omega), aw_cp_o (by omega), aw_cp_o (by omega), aw_cp_o (by omega), hs_u1_ne (by omega), hs_u1_ne (by omega), hs_u1_self, hs_u1_ne (by omega), hs_u1_ne (by omega), hs_u1_ne (by omega), hs_u1_ne (by omega)]
    · rw [aw_cp_o (by omega), aw_cp_o (by omega), aw_cp_o (by omega), aw_cp_o (by omega), aw_cp_o (by omega), aw_cp_i (by omega), aw_cp_o (by omega), aw_cp_o (by omega), aw_cp_o (by omega), aw_cp_o (by omega), aw_cp_o (by omega), aw_cp_o (by omega), aw_cp_o (by omega), hs_u1_ne (by omega), hs_u1_ne (by omega), hs_u1_ne (by omega), hs_u1_ne (by omega), hs_u1_ne (by omega), hs_u1_ne (by omega), hs_u1_ne (by omega)]
  obtain ⟨o, hC, w', rfl, a⟩ := h
  exact ⟨w', hC, a⟩
theorem jcv_158_4 {w : cm_W} (hG : sv_w sg w) : ∃ w' : cm_W, cm_C 1 85 [.inr (.inr (some 158)), .inr (.inr (some 4))] w (none, w') ∧ sv_w sg w' ∧ (∀ k i, ¬ (158 ≤ k ∧ k ≤ 171) → w'.1 k i = w.1 k i) ∧ w'.1 158 4 = w.1 4 4 ∧ (∀ f, f < 4 → w'.1 166 f = w.1 12 f) := by
  have h : ∃ o, cm_C (0 + 1) 85 [.inr (.inr (some 158)), .inr (.inr (some 4))] w o ∧ (fun o : cm_O => ∃ w', o = (none, w') ∧ sv_w sg w' ∧ (∀ k i, ¬ (158 ≤ k ∧ k ≤ 171) → w'.1 k i = w.1 k i) ∧ w'.1 158 4 = w.1 4 4 ∧ (∀ f, f < 4 → w'.1 166 f = w.1 12 f)) o := by
    refine wk_entry (by rw [xm_6111ea63]; exact Nat.le_of_ble_eq_true rfl) ?_
    rw [show cm_ent 85 [.inr (.inr (some 158)), .inr (.inr (some 4))] = [some (.inr (.inr (some 158))), some (.inr (.inr (some 4)))] from by unfold cm_ent; rw [xm_6111ea63]; rfl]
    refine wk_aload_n xd_3a930f2e rfl ?_
    refine wk_aload_n xd_9c80cc4a rfl ?_
    refine wk_getI xf_a82c48ab xd_4ec839a7 ?_
    refine wk_putI xf_ac407722 (fun ci => wk_fitI ci) xd_c8a83ea6 ?_
    have hG1_ : sv_w sg (cm_u1 w 158 0 (w.1 4 0)) := sv_w_u1 hG (by rw [xg_00126c7c]; exact sv_in_top _)
    refine wk_aload_n xd_3a2a4c08 rfl ?_
    refine wk_aload_n xd_9c398f6c rfl ?_
    refine wk_getI xf_a6866b8c xd_5d3993dc ?_
    refine wk_putI xf_1b60f72d (fun ci => wk_fitI ci) xd_d10589b6 ?_
    have hG2_ : sv_w sg (cm_u1 (cm_u1 w 158 0 (w.1 4 0)) 158 1 ((cm_u1 w 158 0 (w.1 4 0)).1 4 1)) := sv_w_u1 hG1_ (by rw [xg_efd00742]; exact sv_in_top _)
    refine wk_aload_n xd_b94e31f1 rfl ?_
    refine wk_aload_n xd_1f5df295 rfl ?_
    refine wk_getI xf_1b256479 xd_f36297ba ?_
    refine wk_putI xf_7ebd2b14 (fun ci => wk_fitI ci) xd_3164d5c2 ?_
    have hG3_ : sv_w sg (cm_u1 (cm_u1 (cm_u1 w 158 0 (w.1 4 0)) 158 1 ((cm_u1 w 158 0 (w.1 4 0)).1 4 1)) 158 2 ((cm_u1 (cm_u1 w 158 0 (w.1 4 0)) 158 1 ((cm_u1 w 158 0 (w.1 4 0)).1 4 1)).1 4 2)) := sv_w_u1 hG2_ (by rw [xg_04e7bc41]; exact sv_in_top _)
    refine wk_aload_n xd_0cc64b30 rfl ?_
    refine wk_aload_n xd_aad58854 rfl ?_
    refine wk_getI xf_aaa25ed3 xd_b7a1c6ec ?_
    refine wk_putI xf_983e3013 (fun ci => wk_fitI ci) xd_ec2b05ca ?_
    have hG4_ : sv_w sg (cm_u1 (cm_u1 (cm_u1 (cm_u1 w 158 0 (w.1 4 0)) 158 1 ((cm_u1 w 158 0 (w.1 4 0)).1 4 1)) 158 2 ((cm_u1 (cm_u1 w 158 0 (w.1 4 0)) 158 1 ((cm_u1 w 158 0 (w.1 4 0)).1 4 1)).1 4 2)) 158 3 ((cm_u1 (cm_u1 (cm_u1 w 158 0 (w.1 4 0)) 158 1 ((cm_u1 w 158 0 (w.1 4 0)).1 4 1)) 158 2 ((cm_u1 (cm_u1 w 158 0 (w.1 4 0)) 158 1 ((cm_u1 w 158 0 (w.1 4 0)).1 4 1)).1 4 2)).1 4 3)) := sv_w_u1 hG3_ (by have e := hG 4 3; rw [xg_edd1578a] at e; rw [xg_64f1c9c4]; exact e)
    refine wk_aload_n xd_60295c6d rfl ?_
    refine wk_aload_n xd_c63a9f09 rfl ?_
    refine wk_getI xf_2db3ef6a xd_72fa9a36 ?_
    refine wk_putI xf_871bd31f (fun ci => wk_fitI ci) xd_fec6805c ?_
    have hG5_ : sv_w sg (cm_u1 (cm_u1 (cm_u1 (cm_u1 (cm_u1 w 158 0 (w.1 4 0)) 158 1 ((cm_u1 w 158 0 (w.1 4 0)).1 4 1)) 158 2 ((cm_u1 (cm_u1 w 158 0 (w.1 4 0)) 158 1 ((cm_u1 w 158 0 (w.1 4 0)).1 4 1)).1 4 2)) 158 3 ((cm_u1 (cm_u1 (cm_u1 w 158 0 (w.1 4 0)) 158 1 ((cm_u1 w 158 0 (w.1 4 0)).1 4 1)) 158 2 ((cm_u1 (cm_u1 w 158 0 (w.1 4 0)) 158 1 ((cm_u1 w 158 0 (w.1 4 0)).1 4 1)).1 4 2)).1 4 3)) 158 4 ((cm_u1 (cm_u1 (cm_u1 (cm_u1 w 158 0 (w.1 4 0)) 158 1 ((cm_u1 w 158 0 (w.1 4 0)).1 4 1)) 158 2 ((cm_u1 (cm_u1 w 158 0 (w.1 4 0)) 158 1 ((cm_u1 w 158 0 (w.1 4 0)).1 4 1)).1 4 2)) 158 3 ((cm_u1 (cm_u1 (cm_u1 w 158 0 (w.1 4 0)) 158 1 ((cm_u1 w 158 0 (w.1 4 0)).1 4 1)) 158 2 ((cm_u1 (cm_u1 w 158 0 (w.1 4 0)) 158 1 ((cm_u1 w 158 0 (w.1 4 0)).1 4 1)).1 4 2)).1 4 3)).1 4 4)) := sv_w_u1 hG4_ (by have e := hG 4 4; rw [xg_bf82035f] at e; rw [xg_36a29d11]; exact e)
    refine wk_aload_n xd_bca7b8f3 rfl ?_
    refine wk_aload_n xd_1ab47b97 rfl ?_
    refine wk_getI xf_758bf40f xd_39724907 ?_
    refine wk_putI xf_6193fa78 (fun ci => wk_fitI ci) xd_4ef31996 ?_
    have hG6_ : sv_w sg (cm_u1 (cm_u1 (cm_u1 (cm_u1 (cm_u1 (cm_u1 w 158 0 (w.1 4 0)) 158 1 ((cm_u1 w 158 0 (w.1 4 0)).1 4 1)) 158 2 ((cm_u1 (cm_u1 w 158 0 (w.1 4 0)) 158 1 ((cm_u1 w 158 0 (w.1 4 0)).1 4 1)).1 4 2)) 158 3 ((cm_u1 (cm_u1 (cm_u1 w 158 0 (w.1 4 0)) 158 1 ((cm_u1 w 158 0 (w.1 4 0)).1 4 1)) 158 2 ((cm_u1 (cm_u1 w 158 0 (w.1 4 0)) 158 1 ((cm_u1 w 158 0 (w.1 4 0)).1 4 1)).1 4 2)).1 4 3)) 158 4 ((cm_u1 (cm_u1 (cm_u1 (cm_u1 w 158 0 (w.1 4 0)) 158 1 ((cm_u1 w 158 0 (w.1 4 0)).1 4 1)) 158 2 ((cm_u1 (cm_u1 w 158 0 (w.1 4 0)) 158 1 ((cm_u1 w 158 0 (w.1 4 0)).1 4 1)).1 4 2)) 158 3 ((cm_u1 (cm_u1 (cm_u1 w 158 0 (w.1 4 0)) 158 1 ((cm_u1 w 158 0 (w.1 4 0)).1 4 1)) 158 2 ((cm_u1 (cm_u1 w 158 0 (w.1 4 0)) 158 1 ((cm_u1 w 158 0 (w.1 4 0)).1 4 1)).1 4 2)).1 4 3)).1 4 4)) 158 5 ((cm_u1 (cm_u1 (cm_u1 (cm_u1 (cm_u1 w 158 0 (w.1 4 0)) 158 1 ((cm_u1 w 158 0 (w.1 4 0)).1 4 1)) 158 2 ((cm_u1 (cm_u1 w 158 0 (w.1 4 0)) 158 1 ((cm_u1 w 158 0 (w.1 4 0)).1 4 1)).1 4 2)) 158 3 ((cm_u1 (cm_u1 (cm_u1 w 158 0 (w.1 4 0)) 158 1 ((cm_u1 w 158 0 (w.1 4 0)).1 4 1)) 158 2 ((cm_u1 (cm_u1 w 158 0 (w.1 4 0)) 158 1 ((cm_u1 w 158 0 (w.1 4 0)).1 4 1)).1 4 2)).1 4 3)) 158 4 ((cm_u1 (cm_u1 (cm_u1 (cm_u1 w 158 0 (w.1 4 0)) 158 1 ((cm_u1 w 158 0 (w.1 4 0)).1 4 1)) 158 2 ((cm_u1 (cm_u1 w 158 0 (w.1 4 0)) 158 1 ((cm_u1 w 158 0 (w.1 4 0)).1 4 1)).1 4 2)) 158 3 ((cm_u1 (cm_u1 (cm_u1 w 158 0 (w.1 4 0)) 158 1 ((cm_u1 w 158 0 (w.1 4 0)).1 4 1)) 158 2 ((cm_u1 (cm_u1 w 158 0 (w.1 4 0)) 158 1 ((cm_u1 w 158 0 (w.1 4 0)).1 4 1)).1 4 2)).1 4 3)).1 4 4)).1 4 5)) := sv_w_u1 hG5_ (by have e := hG 4 5; rw [xg_e86d59c4] at e; rw [xg_614dc78a]; exact e)
    refine wk_aload_n xd_bc1efbd5 rfl ?_
    refine wk_aload_n xd_1a0d38b1 rfl ?_
    refine wk_getI xf_89116ba4 xd_88457819 ?_
    refine wk_putI xf_d07984e6 (fun ci => wk_fitI ci) xd_04796273 ?_
    have hG7_ : sv_w sg (cm_u1 (cm_u1 (cm_u1 (cm_u1 (cm_u1 (cm_u1 (cm_u1 w 158 0 (w.1 4 0)) 158 1 ((cm_u1 w 158 0 (w.1 4 0)).1 4 1)) 158 2 ((cm_u1 (cm_u1 w 158 0 (w.1 4 0)) 158 1 ((cm_u1 w 158 0 (w.1 4 0)).1 4 1)).1 4 2)) 158 3 ((cm_u1 (cm_u1 (cm_u1 w 158 0 (w.1 4 0)) 158 1 ((cm_u1 w 158 0 (w.1 4 0)).1 4 1)) 158 2 ((cm_u1 (cm_u1 w 158 0 (w.1 4 0)) 158 1 ((cm_u1 w 158 0 (w.1 4 0)).1 4 1)).1 4 2)).1 4 3)) 158 4 ((cm_u1 (cm_u1 (cm_u1 (cm_u1 w 158 0 (w.1 4 0)) 158 1 ((cm_u1 w 158 0 (w.1 4 0)).1 4 1)) 158 2 ((cm_u1 (cm_u1 w 158 0 (w.1 4 0)) 158 1 ((cm_u1 w 158 0 (w.1 4 0)).1 4 1)).1 4 2)) 158 3 ((cm_u1 (cm_u1 (cm_u1 w 158 0 (w.1 4 0)) 158 1 ((cm_u1 w 158 0 (w.1 4 0)).1 4 1)) 158 2 ((cm_u1 (cm_u1 w 158 0 (w.1 4 0)) 158 1 ((cm_u1 w 158 0 (w.1 4 0)).1 4 1)).1 4 2)).1 4 3)).1 4 4)) 158 5 ((cm_u1 (cm_u1 (cm_u1 (cm_u1 (cm_u1 w 158 0 (w.1 4 0)) 158 1 ((cm_u1 w 158 0 (w.1 4 0)).1 4 1)) 158 2 ((cm_u1 (cm_u1 w 158 0 (w.1 4 0)) 158 1 ((cm_u1 w 158 0 (w.1 4 0)).1 4 1)).1 4 2)) 158 3 ((cm_u1 (cm_u1 (cm_u1 w 158 0 (w.1 4 0)) 158 1 ((cm_u1 w 158 0 (w.1 4 0)).1 4 1)) 158 2 ((cm_u1 (cm_u1 w 158 0 (w.1 4 0)) 158 1 ((cm_u1 w 158 0 (w.1 4 0)).1 4 1)).1 4 2)).1 4 3)) 158 4 ((cm_u1 (cm_u1 (cm_u1 (cm_u1 w 158 0 (w.1 4 0)) 158 1 ((cm_u1 w 158 0 (w.1 4 0)).1 4 1)) 158 2 ((cm_u1 (cm_u1 w 158 0 (w.1 4 0)) 158 1 ((cm_u1 w 158 0 (w.1 4 0)).1 4 1)).1 4 2)) 158 3 ((cm_u1 (cm_u1 (cm_u1 w 158 0 (w.1 4 0)) 158 1 ((cm_u1 w 158 0 (w.1 4 0)).1 4 1)) 158 2 ((cm_u1 (cm_u1 w 158 0 (w.1 4 0)) 158 1 ((cm_u1 w 158 0 (w.1 4 0)).1 4 1)).1 4 2)).1 4 3)).1 4 4)).1 4 5)) 158 6 ((cm_u1 (cm_u1 (cm_u1 (cm_u1 (cm_u1 (cm_u1 w 158 0 (w.1 4 0)) 158 1 ((cm_u1 w 158 0 (w.1 4 0)).1 4 1)) 158 2 ((cm_u1 (cm_u1 w 158 0 (w.1 4 0)) 158 1 ((cm_u1 w 158 0 (w.1 4 0)).1 4 1)).1 4 2)) 158 3 ((cm_u1 (cm_u1 (cm_u1 w 158 0 (w.1 4 0)) 158 1 ((cm_u1 w 158 0 (w.1 4 0)).1 4 1)) 158 2 ((cm_u1 (cm_u1 w 158 0 (w.1 4 0)) 158 1 ((cm_u1 w 158 0 (w.1 4 0)).1 4 1)).1 4 2)).1 4 3)) 158 4 ((cm_u1 (cm_u1 (cm_u1 (cm_u1 w 158 0 (w.1 4 0)) 158 1 ((cm_u1 w 158 0 (w.1 4 0)).1 4 1)) 158 2 ((cm_u1 (cm_u1 w 158 0 (w.1 4 0)) 158 1 ((cm_u1 w 158 0 (w.1 4 0)).1 4 1)).1 4 2)) 158 3 ((cm_u1 (cm_u1 (cm_u1 w 158 0 (w.1 4 0)) 158 1 ((cm_u1 w 158 0 (w.1 4 0)).1 4 1)) 158 2 ((cm_u1 (cm_u1 w 158 0 (w.1 4 0)) 158 1 ((cm_u1 w 158 0 (w.1 4 0)).1 4 1)).1 4 2)).1 4 3)).1 4 4)) 158 5 ((cm_u1 (cm_u1 (cm_u1 (cm_u1 (cm_u1 w 158 0 (w.1 4 0)) 158 1 ((cm_u1 w 158 0 (w.1 4 0)).1 4 1)) 158 2 ((cm_u1 (cm_u1 w 158 0 (w.1 4 0)) 158 1 ((cm_u1 w 158 0 (w.1 4 0)).1 4 1)).1 4 2)) 158 3 ((cm_u1 (cm_u1 (cm_u1 w 158 0 (w.1 4 0)) 158 1 ((cm_u1 w 158 0 (w.1 4 0)).1 4 1)) 158 2 ((cm_u1 (cm_u1 w 158 0 (w.1 4 0)) 158 1 ((cm_u1 w 158 0 (w.1 4 0)).1 4 1)).1 4 2)).1 4 3)) 158 4 ((cm_u1 (cm_u1 (cm_u1 (cm_u1 w 158 0 (w.1 4 0)) 158 1 ((cm_u1 w 158 0 (w.1 4 0)).1 4 1)) 158 2 ((cm_u1 (cm_u1 w 158 0 (w.1 4 0)) 158 1 ((cm_u1 w 158 0 (w.1 4 0)).1 4 1)).1 4 2)) 158 3 ((cm_u1 (cm_u1 (cm_u1 w 158 0 (w.1 4 0)) 158 1 ((cm_u1 w 158 0 (w.1 4 0)).1 4 1)) 158 2 ((cm_u1 (cm_u1 w 158 0 (w.1 4 0)) 158 1 ((cm_u1 w 158 0 (w.1 4 0)).1 4 1)).1 4 2)).1 4 3)).1 4 4)).1 4 5)).1 4 6)) := sv_w_u1 hG6_ (by have e := hG 4 6; rw [xg_460611ef] at e; rw [xg_cf268fa1]; exact e)
    refine wk_aload_n xd_ed28861e rfl ?_
    refine wk_getR xf_4830a2fe xd_65ccc16c ?_
    refine wk_iconst xd_d49c0471 ?_
    refine wk_aload_n xd_feef9e28 rfl ?_
    refine wk_getR xf_54de0556 xd_c9adf661 ?_
    refine wk_iconst xd_9f15f3b1 ?_
    refine wk_bipush xd_c973f46b ?_
    refine aw_acp (n := 16) xl_a21f840f xf_964367a4 (by decide) (by decide) (by decide) rfl xd_b94e89d6 ?_
    refine wk_aload_n xd_42aad2bf rfl ?_
    refine wk_getR xf_a82694e1 xd_eb40bdf7 ?_
    refine wk_iconst xd_04661965 ?_
    refine wk_aload_n xd_097363a1 rfl ?_
    refine wk_getR xf_e25e2cec xd_b5766702 ?_
    refine wk_iconst xd_39ef352d ?_
    refine wk_iconst xd_db47f72d ?_
    refine aw_acp (n := 16) xl_a21f840f xf_2c5f1136 (by decide) (by decide) (by decide) rfl xd_60a9aa0d ?_
    refine wk_aload_n xd_a1e378e5 rfl ?_
    refine wk_getR xf_92b4c56e xd_6c53e229 ?_
    refine wk_iconst xd_978477ed ?_
    refine wk_aload_n xd_86897f35 rfl ?_
    refine wk_getR xf_6f64604d xd_451eb816 ?_
    refine wk_iconst xd_fe3d4cf9 ?_
    refine wk_bipush xd_860b82a3 ?_
    refine aw_acp (n := 16) xl_a21f840f xf_105eaa9a (by decide) (by decide) (by decide) rfl xd_68a0f2f0 ?_
    refine wk_aload_n xd_4e134f37 rfl ?_
    refine wk_getR xf_9b86501f xd_45a6f506 ?_
    refine wk_iconst xd_0be0a9ae ?_
    refine wk_aload_n xd_e85c2dc0 rfl ?_
    refine wk_getR xf_5fee439a xd_8bf609ae ?_
    refine wk_iconst xd_f92a786e ?_
    refine wk_bipush xd_a32c7ae0 ?_
    refine aw_acp (n := 16) xl_a21f840f xf_265315d6 (by decide) (by decide) (by decide) rfl xd_008faa78 ?_
    refine wk_aload_n xd_54196157 rfl ?_
    refine wk_getR xf_df7315c6 xd_a91b4238 ?_
    refine wk_iconst xd_625992ba ?_
    refine wk_aload_n xd_aa48aa88 rfl ?_
    refine wk_getR xf_ba9cf5b2 xd_951c5368 ?_
    refine wk_iconst xd_e6767a47 ?_
    refine wk_bipush xd_9e40b41d ?_
    refine aw_acp (n := 16) xl_a21f840f xf_423e17bb (by decide) (by decide) (by decide) rfl xd_70473495 ?_
    refine wk_aload_n xd_160de61f rfl ?_
    refine wk_getR xf_f431f81b xd_ce8d174b ?_
    refine wk_iconst xd_7d059093 ?_
    refine wk_aload_n xd_b04284e8 rfl ?_
    refine wk_getR xf_d392adfb xd_00ddebe3 ?_
    refine wk_iconst xd_8fcf4153 ?_
    refine wk_bipush xd_380331a7 ?_
    refine aw_acp (n := 16) xl_a21f840f xf_640749bf (by decide) (by decide) (by decide) rfl xd_cd6cc550 ?_
    refine wk_aload_n xd_bc3a9a2f rfl ?_
    refine wk_getR xf_cbd8d49d xd_6a3e4cd5 ?_
    refine wk_iconst xd_f976d9fd ?_
    refine wk_aload_n xd_9b509dff rfl ?_
    refine wk_getR xf_2f063e37 xd_437316ea ?_
    refine wk_iconst xd_90cfe2e9 ?_
    refine wk_iconst xd_726720e9 ?_
    refine aw_acp (n := 16) xl_a21f840f xf_4f95b86a (by decide) (by decide) (by decide) rfl xd_a6624489 ?_
    refine wk_aload_n xd_3dfa1dbd rfl ?_
    refine wk_getR xf_a44a15d8 xd_ec3fafad ?_
    refine wk_iconst xd_83f3e594 ?_
    refine wk_aload_n xd_c3129544 rfl ?_
    refine wk_getR xf_01df11df xd_b2097558 ?_
    refine wk_iconst xd_03c86ed4 ?_
    refine wk_iconst xd_e160acd4 ?_
    refine aw_acp (n := 16) xl_a21f840f xf_db976056 (by decide) (by decide) (by decide) rfl xd_4fc25200 ?_
    refine wk_aload_n xd_09ee417d rfl ?_
    refine wk_getR xf_26a8dd70 xd_e08a1108 ?_
    refine wk_iconst xd_44219c40 ?_
    refine wk_aload_n xd_42d212d6 rfl ?_
    refine wk_getR xf_62580624 xd_92b7584a ?_
    refine wk_iconst xd_79a8b008 ?_
    refine wk_bipush xd_019e7e52 ?_
    refine aw_acp (n := 16) xl_a21f840f xf_f0059183 (by decide) (by decide) (by decide) rfl xd_f6ff5ecc ?_
    refine wk_aload_n xd_9ca730af rfl ?_
    refine wk_getR xf_43c8776c xd_d7bd81a0 ?_
    refine wk_iconst xd_e2db5adc ?_
    refine wk_aload_n xd_56be0623 rfl ?_
    refine wk_getR xf_f198d486 xd_429d6e75 ?_
    refine wk_iconst xd_a952ad1c ?_
    refine wk_bipush xd_a6fa8f7c ?_
    refine aw_acp (n := 16) xl_a21f840f xf_ea5778fb (by decide) (by decide) (by decide) rfl xd_e9c8c24b ?_
    refine wk_aload_n xd_0d1bc059 rfl ?_
    refine wk_getR xf_2080c8ea xd_049db24d ?_
    refine wk_iconst xd_6a86adc6 ?_
    refine wk_aload_n xd_462793f2 rfl ?_
    refine wk_getR xf_f6b10db1 xd_76a0fb0f ?_
    refine wk_iconst xd_ba7cb0d2 ?_
    refine wk_bipush xd_37467f8a ?_
    refine aw_acp (n := 16) xl_a21f840f xf_f0fe52ce (by decide) (by decide) (by decide) rfl xd_e1c19ab6 ?_
    refine wk_aload_n xd_fa62df65 rfl ?_
    refine wk_getR xf_a5624365 xd_e8c1522d ?_
    refine wk_iconst xd_cc9989ef ?_
    refine wk_aload_n xd_e94025e6 rfl ?_
    refine wk_getR xf_33191878 xd_68abf697 ?_
    refine wk_iconst xd_87107e2f ?_
    refine wk_bipush xd_1904acb9 ?_
    refine aw_acp (n := 16) xl_a21f840f xf_027b4529 (by decide) (by decide) (by decide) rfl xd_ad69e753 ?_
    refine wk_aload_n xd_55056971 rfl ?_
    refine wk_getR xf_c62afce3 xd_c8162ad0 ?_
    refine wk_iconst xd_1c6394fb ?_
    refine wk_aload_n xd_1e393ada rfl ?_
    refine wk_getR xf_3430c14f xd_ba2b6392 ?_
    refine wk_iconst xd_2153fb95 ?_
    refine wk_bipush xd_df6584f2 ?_
    refine aw_acp (n := 16) xl_a21f840f xf_18d26f1c (by decide) (by decide) (by decide) rfl xd_2c22f59e ?_
    refine wk_return xd_8a066d7b xr_59ac3bf1 ⟨_, rfl, (aw_cpG xf_0979fbe7 (aw_cpG xf_c2252842 (aw_cpG2 xf_151dcce6 (aw_cpG2 xf_dbe12798 (aw_cpG xf_7957134e (aw_cpG xf_b20bc0eb (aw_cpG xf_349fb245 (aw_cpG xf_ffc361e0 (aw_cpG xf_e2c65158 (aw_cpG xf_299a82fd (aw_cpG xf_af0ef053 (aw_cpG xf_645223f6 (aw_cpG xf_72b568a3 hG7_))))))))))))), fun k i hk => ?_, ?_, fun f hf => ?_⟩
    · rw [aw_cp_o (by omega), aw_cp_o (by omega), aw_cp_o (by omega), aw_cp_o (by omega), aw_cp_o (by omega), aw_cp_o (by omega), aw_cp_o (by omega), aw_cp_o (by omega), aw_cp_o (by omega), aw_cp_o (by omega), aw_cp_o (by omega), aw_cp_o (by omega), aw_cp_o (by omega), hs_u1_ne (by omega), hs_u1_ne (by omega), hs_u1_ne (by omega), hs_u1_ne (by omega), hs_u1_ne (by omega), hs_u1_ne (by omega), hs_u1_ne (by omega)]
    · rw [aw_cp_o (by omega), aw_cp_o (by omega), aw_cp_o (by omega), aw_cp_o (by omega), aw_cp_o (by omega), aw_cp_o (by omega), aw_cp_o (by omega), aw_cp_o (by omega), aw_cp_o (by omega), aw_cp_o (by omega), aw_cp_o (by omega), aw_cp_o (by omega), aw_cp_o (by omega), hs_u1_ne (by omega), hs_u1_ne (by omega), hs_u1_self, hs_u1_ne (by omega), hs_u1_ne (by omega), hs_u1_ne (by omega), hs_u1_ne (by omega)]
    · rw [aw_cp_o (by omega), aw_cp_o (by omega), aw_cp_o (by omega), aw_cp_o (by omega), aw_cp_o (by omega), aw_cp_i (by omega), aw_cp_o (by omega), aw_cp_o (by omega), aw_cp_o (by omega), aw_cp_o (by omega), aw_cp_o (by omega), aw_cp_o (by omega), aw_cp_o (by omega), hs_u1_ne (by omega), hs_u1_ne (by omega), hs_u1_ne (by omega), hs_u1_ne (by omega), hs_u1_ne (by omega), hs_u1_ne (by omega), hs_u1_ne (by omega)]
  obtain ⟨o, hC, w', rfl, a⟩ := h
  exact ⟨w', hC, a⟩
theorem jcv_4_131 {w : cm_W} (hG : sv_w sg w) : ∃ w' : cm_W, cm_C 1 85 [.inr (.inr (some 4)), .inr (.inr (some 131))] w (none, w') ∧ sv_w sg w' ∧ (∀ k i, ¬ (4 ≤ k ∧ k ≤ 17) → w'.1 k i = w.1 k i) ∧ w'.1 4 4 = w.1 131 4 ∧ (∀ f, f < 4 → w'.1 12 f = w.1 139 f) := by
  have h : ∃ o, cm_C (0 + 1) 85 [.inr (.inr (some 4)), .inr (.inr (some 131))] w o ∧ (fun o : cm_O => ∃ w', o = (none, w') ∧ sv_w sg w' ∧ (∀ k i, ¬ (4 ≤ k ∧ k ≤ 17) → w'.1 k i = w.1 k i) ∧ w'.1 4 4 = w.1 131 4 ∧ (∀ f, f < 4 → w'.1 12 f = w.1 139 f)) o := by
    refine wk_entry (by rw [xm_6111ea63]; exact Nat.le_of_ble_eq_true rfl) ?_
    rw [show cm_ent 85 [.inr (.inr (some 4)), .inr (.inr (some 131))] = [some (.inr (.inr (some 4))), some (.inr (.inr (some 131)))] from by unfold cm_ent; rw [xm_6111ea63]; rfl]
    refine wk_aload_n xd_3a930f2e rfl ?_
    refine wk_aload_n xd_9c80cc4a rfl ?_
    refine wk_getI xf_5d22e66f xd_4ec839a7 ?_
    refine wk_putI xf_a9ae451d (fun ci => wk_fitI ci) xd_c8a83ea6 ?_
    have hG1_ : sv_w sg (cm_u1 w 4 0 (w.1 131 0)) := sv_w_u1 hG (by rw [xg_c2ec6f90]; exact sv_in_top _)
    refine wk_aload_n xd_3a2a4c08 rfl ?_
    refine wk_aload_n xd_9c398f6c rfl ?_
    refine wk_getI xf_51e70c83 xd_5d3993dc ?_
    refine wk_putI xf_8485ff38 (fun ci => wk_fitI ci) xd_d10589b6 ?_
    have hG2_ : sv_w sg (cm_u1 (cm_u1 w 4 0 (w.1 131 0)) 4 1 ((cm_u1 w 4 0 (w.1 131 0)).1 131 1)) := sv_w_u1 hG1_ (by rw [xg_2d2e04ae]; exact sv_in_top _)
    refine wk_aload_n xd_b94e31f1 rfl ?_
    refine wk_aload_n xd_1f5df295 rfl ?_
    refine wk_getI xf_343ad0ba xd_f36297ba ?_
    refine wk_putI xf_3926f0cd (fun ci => wk_fitI ci) xd_3164d5c2 ?_
    have hG3_ : sv_w sg (cm_u1 (cm_u1 (cm_u1 w 4 0 (w.1 131 0)) 4 1 ((cm_u1 w 4 0 (w.1 131 0)).1 131 1)) 4 2 ((cm_u1 (cm_u1 w 4 0 (w.1 131 0)) 4 1 ((cm_u1 w 4 0 (w.1 131 0)).1 131 1)).1 131 2)) := sv_w_u1 hG2_ (by rw [xg_c619bfad]; exact sv_in_top _)
    refine wk_aload_n xd_0cc64b30 rfl ?_
    refine wk_aload_n xd_aad58854 rfl ?_
    refine wk_getI xf_d2b9cbbd xd_b7a1c6ec ?_
    refine wk_putI xf_88a1ca67 (fun ci => wk_fitI ci) xd_ec2b05ca ?_
    have hG4_ : sv_w sg (cm_u1 (cm_u1 (cm_u1 (cm_u1 w 4 0 (w.1 131 0)) 4 1 ((cm_u1 w 4 0 (w.1 131 0)).1 131 1)) 4 2 ((cm_u1 (cm_u1 w 4 0 (w.1 131 0)) 4 1 ((cm_u1 w 4 0 (w.1 131 0)).1 131 1)).1 131 2)) 4 3 ((cm_u1 (cm_u1 (cm_u1 w 4 0 (w.1 131 0)) 4 1 ((cm_u1 w 4 0 (w.1 131 0)).1 131 1)) 4 2 ((cm_u1 (cm_u1 w 4 0 (w.1 131 0)) 4 1 ((cm_u1 w 4 0 (w.1 131 0)).1 131 1)).1 131 2)).1 131 3)) := sv_w_u1 hG3_ (by have e := hG 131 3; rw [xg_46b7462b] at e; rw [xg_edd1578a]; exact e)
    refine wk_aload_n xd_60295c6d rfl ?_
    refine wk_aload_n xd_c63a9f09 rfl ?_
    refine wk_getI xf_cd9c28b1 xd_72fa9a36 ?_
    refine wk_putI xf_0fb07bde (fun ci => wk_fitI ci) xd_fec6805c ?_
    have hG5_ : sv_w sg (cm_u1 (cm_u1 (cm_u1 (cm_u1 (cm_u1 w 4 0 (w.1 131 0)) 4 1 ((cm_u1 w 4 0 (w.1 131 0)).1 131 1)) 4 2 ((cm_u1 (cm_u1 w 4 0 (w.1 131 0)) 4 1 ((cm_u1 w 4 0 (w.1 131 0)).1 131 1)).1 131 2)) 4 3 ((cm_u1 (cm_u1 (cm_u1 w 4 0 (w.1 131 0)) 4 1 ((cm_u1 w 4 0 (w.1 131 0)).1 131 1)) 4 2 ((cm_u1 (cm_u1 w 4 0 (w.1 131 0)) 4 1 ((cm_u1 w 4 0 (w.1 131 0)).1 131 1)).1 131 2)).1 131 3)) 4 4 ((cm_u1 (cm_u1 (cm_u1 (cm_u1 w 4 0 (w.1 131 0)) 4 1 ((cm_u1 w 4 0 (w.1 131 0)).1 131 1)) 4 2 ((cm_u1 (cm_u1 w 4 0 (w.1 131 0)) 4 1 ((cm_u1 w 4 0 (w.1 131 0)).1 131 1)).1 131 2)) 4 3 ((cm_u1 (cm_u1 (cm_u1 w 4 0 (w.1 131 0)) 4 1 ((cm_u1 w 4 0 (w.1 131 0)).1 131 1)) 4 2 ((cm_u1 (cm_u1 w 4 0 (w.1 131 0)) 4 1 ((cm_u1 w 4 0 (w.1 131 0)).1 131 1)).1 131 2)).1 131 3)).1 131 4)) := sv_w_u1 hG4_ (by have e := hG 131 4; rw [xg_14e412fe] at e; rw [xg_bf82035f]; exact e)
    refine wk_aload_n xd_bca7b8f3 rfl ?_
    refine wk_aload_n xd_1ab47b97 rfl ?_
    refine wk_getI xf_2b1401d6 xd_39724907 ?_
    refine wk_putI xf_578860bb (fun ci => wk_fitI ci) xd_4ef31996 ?_
    have hG6_ : sv_w sg (cm_u1 (cm_u1 (cm_u1 (cm_u1 (cm_u1 (cm_u1 w 4 0 (w.1 131 0)) 4 1 ((cm_u1 w 4 0 (w.1 131 0)).1 131 1)) 4 2 ((cm_u1 (cm_u1 w 4 0 (w.1 131 0)) 4 1 ((cm_u1 w 4 0 (w.1 131 0)).1 131 1)).1 131 2)) 4 3 ((cm_u1 (cm_u1 (cm_u1 w 4 0 (w.1 131 0)) 4 1 ((cm_u1 w 4 0 (w.1 131 0)).1 131 1)) 4 2 ((cm_u1 (cm_u1 w 4 0 (w.1 131 0)) 4 1 ((cm_u1 w 4 0 (w.1 131 0)).1 131 1)).1 131 2)).1 131 3)) 4 4 ((cm_u1 (cm_u1 (cm_u1 (cm_u1 w 4 0 (w.1 131 0)) 4 1 ((cm_u1 w 4 0 (w.1 131 0)).1 131 1)) 4 2 ((cm_u1 (cm_u1 w 4 0 (w.1 131 0)) 4 1 ((cm_u1 w 4 0 (w.1 131 0)).1 131 1)).1 131 2)) 4 3 ((cm_u1 (cm_u1 (cm_u1 w 4 0 (w.1 131 0)) 4 1 ((cm_u1 w 4 0 (w.1 131 0)).1 131 1)) 4 2 ((cm_u1 (cm_u1 w 4 0 (w.1 131 0)) 4 1 ((cm_u1 w 4 0 (w.1 131 0)).1 131 1)).1 131 2)).1 131 3)).1 131 4)) 4 5 ((cm_u1 (cm_u1 (cm_u1 (cm_u1 (cm_u1 w 4 0 (w.1 131 0)) 4 1 ((cm_u1 w 4 0 (w.1 131 0)).1 131 1)) 4 2 ((cm_u1 (cm_u1 w 4 0 (w.1 131 0)) 4 1 ((cm_u1 w 4 0 (w.1 131 0)).1 131 1)).1 131 2)) 4 3 ((cm_u1 (cm_u1 (cm_u1 w 4 0 (w.1 131 0)) 4 1 ((cm_u1 w 4 0 (w.1 131 0)).1 131 1)) 4 2 ((cm_u1 (cm_u1 w 4 0 (w.1 131 0)) 4 1 ((cm_u1 w 4 0 (w.1 131 0)).1 131 1)).1 131 2)).1 131 3)) 4 4 ((cm_u1 (cm_u1 (cm_u1 (cm_u1 w 4 0 (w.1 131 0)) 4 1 ((cm_u1 w 4 0 (w.1 131 0)).1 131 1)) 4 2 ((cm_u1 (cm_u1 w 4 0 (w.1 131 0)) 4 1 ((cm_u1 w 4 0 (w.1 131 0)).1 131 1)).1 131 2)) 4 3 ((cm_u1 (cm_u1 (cm_u1 w 4 0 (w.1 131 0)) 4 1 ((cm_u1 w 4 0 (w.1 131 0)).1 131 1)) 4 2 ((cm_u1 (cm_u1 w 4 0 (w.1 131 0)) 4 1 ((cm_u1 w 4 0 (w.1 131 0)).1 131 1)).1 131 2)).1 131 3)).1 131 4)).1 131 5)) := sv_w_u1 hG5_ (by have e := hG 131 5; rw [xg_430b4865] at e; rw [xg_e86d59c4]; exact e)
    refine wk_aload_n xd_bc1efbd5 rfl ?_
    refine wk_aload_n xd_1a0d38b1 rfl ?_
    refine wk_getI xf_9afe7f48 xd_88457819 ?_
    refine wk_putI xf_ab12ff10 (fun ci => wk_fitI ci) xd_04796273 ?_
    have hG7_ : sv_w sg (cm_u1 (cm_u1 (cm_u1 (cm_u1 (cm_u1 (cm_u1 (cm_u1 w 4 0 (w.1 131 0)) 4 1 ((cm_u1 w 4 0 (w.1 131 0)).1 131 1)) 4 2 ((cm_u1 (cm_u1 w 4 0 (w.1 131 0)) 4 1 ((cm_u1 w 4 0 (w.1 131 0)).1 131 1)).1 131 2)) 4 3 ((cm_u1 (cm_u1 (cm_u1 w 4 0 (w.1 131 0)) 4 1 ((cm_u1 w 4 0 (w.1 131 0)).1 131 1)) 4 2 ((cm_u1 (cm_u1 w 4 0 (w.1 131 0)) 4 1 ((cm_u1 w 4 0 (w.1 131 0)).1 131 1)).1 131 2)).1 131 3)) 4 4 ((cm_u1 (cm_u1 (cm_u1 (cm_u1 w 4 0 (w.1 131 0)) 4 1 ((cm_u1 w 4 0 (w.1 131 0)).1 131 1)) 4 2 ((cm_u1 (cm_u1 w 4 0 (w.1 131 0)) 4 1 ((cm_u1 w 4 0 (w.1 131 0)).1 131 1)).1 131 2)) 4 3 ((cm_u1 (cm_u1 (cm_u1 w 4 0 (w.1 131 0)) 4 1 ((cm_u1 w 4 0 (w.1 131 0)).1 131 1)) 4 2 ((cm_u1 (cm_u1 w 4 0 (w.1 131 0)) 4 1 ((cm_u1 w 4 0 (w.1 131 0)).1 131 1)).1 131 2)).1 131 3)).1 131 4)) 4 5 ((cm_u1 (cm_u1 (cm_u1 (cm_u1 (cm_u1 w 4 0 (w.1 131 0)) 4 1 ((cm_u1 w 4 0 (w.1 131 0)).1 131 1)) 4 2 ((cm_u1 (cm_u1 w 4 0 (w.1 131 0)) 4 1 ((cm_u1 w 4 0 (w.1 131 0)).1 131 1)).1 131 2)) 4 3 ((cm_u1 (cm_u1 (cm_u1 w 4 0 (w.1 131 0)) 4 1 ((cm_u1 w 4 0 (w.1 131 0)).1 131 1)) 4 2 ((cm_u1 (cm_u1 w 4 0 (w.1 131 0)) 4 1 ((cm_u1 w 4 0 (w.1 131 0)).1 131 1)).1 131 2)).1 131 3)) 4 4 ((cm_u1 (cm_u1 (cm_u1 (cm_u1 w 4 0 (w.1 131 0)) 4 1 ((cm_u1 w 4 0 (w.1 131 0)).1 131 1)) 4 2 ((cm_u1 (cm_u1 w 4 0 (w.1 131 0)) 4 1 ((cm_u1 w 4 0 (w.1 131 0)).1 131 1)).1 131 2)) 4 3 ((cm_u1 (cm_u1 (cm_u1 w 4 0 (w.1 131 0)) 4 1 ((cm_u1 w 4 0 (w.1 131 0)).1 131 1)) 4 2 ((cm_u1 (cm_u1 w 4 0 (w.1 131 0)) 4 1 ((cm_u1 w 4 0 (w.1 131 0)).1 131 1)).1 131 2)).1 131 3)).1 131 4)).1 131 5)) 4 6 ((cm_u1 (cm_u1 (cm_u1 (cm_u1 (cm_u1 (cm_u1 w 4 0 (w.1 131 0)) 4 1 ((cm_u1 w 4 0 (w.1 131 0)).1 131 1)) 4 2 ((cm_u1 (cm_u1 w 4 0 (w.1 131 0)) 4 1 ((cm_u1 w 4 0 (w.1 131 0)).1 131 1)).1 131 2)) 4 3 ((cm_u1 (cm_u1 (cm_u1 w 4 0 (w.1 131 0)) 4 1 ((cm_u1 w 4 0 (w.1 131 0)).1 131 1)) 4 2 ((cm_u1 (cm_u1 w 4 0 (w.1 131 0)) 4 1 ((cm_u1 w 4 0 (w.1 131 0)).1 131 1)).1 131 2)).1 131 3)) 4 4 ((cm_u1 (cm_u1 (cm_u1 (cm_u1 w 4 0 (w.1 131 0)) 4 1 ((cm_u1 w 4 0 (w.1 131 0)).1 131 1)) 4 2 ((cm_u1 (cm_u1 w 4 0 (w.1 131 0)) 4 1 ((cm_u1 w 4 0 (w.1 131 0)).1 131 1)).1 131 2)) 4 3 ((cm_u1 (cm_u1 (cm_u1 w 4 0 (w.1 131 0)) 4 1 ((cm_u1 w 4 0 (w.1 131 0)).1 131 1)) 4 2 ((cm_u1 (cm_u1 w 4 0 (w.1 131 0)) 4 1 ((cm_u1 w 4 0 (w.1 131 0)).1 131 1)).1 131 2)).1 131 3)).1 131 4)) 4 5 ((cm_u1 (cm_u1 (cm_u1 (cm_u1 (cm_u1 w 4 0 (w.1 131 0)) 4 1 ((cm_u1 w 4 0 (w.1 131 0)).1 131 1)) 4 2 ((cm_u1 (cm_u1 w 4 0 (w.1 131 0)) 4 1 ((cm_u1 w 4 0 (w.1 131 0)).1 131 1)).1 131 2)) 4 3 ((cm_u1 (cm_u1 (cm_u1 w 4 0 (w.1 131 0)) 4 1 ((cm_u1 w 4 0 (w.1 131 0)).1 131 1)) 4 2 ((cm_u1 (cm_u1 w 4 0 (w.1 131 0)) 4 1 ((cm_u1 w 4 0 (w.1 131 0)).1 131 1)).1 131 2)).1 131 3)) 4 4 ((cm_u1 (cm_u1 (cm_u1 (cm_u1 w 4 0 (w.1 131 0)) 4 1 ((cm_u1 w 4 0 (w.1 131 0)).1 131 1)) 4 2 ((cm_u1 (cm_u1 w 4 0 (w.1 131 0)) 4 1 ((cm_u1 w 4 0 (w.1 131 0)).1 131 1)).1 131 2)) 4 3 ((cm_u1 (cm_u1 (cm_u1 w 4 0 (w.1 131 0)) 4 1 ((cm_u1 w 4 0 (w.1 131 0)).1 131 1)) 4 2 ((cm_u1 (cm_u1 w 4 0 (w.1 131 0)) 4 1 ((cm_u1 w 4 0 (w.1 131 0)).1 131 1)).1 131 2)).1 131 3)).1 131 4)).1 131 5)).1 131 6)) := sv_w_u1 hG6_ (by have e := hG 131 6; rw [xg_ed60004e] at e; rw [xg_460611ef]; exact e)
    refine wk_aload_n xd_ed28861e rfl ?_
    refine wk_getR xf_45541971 xd_65ccc16c ?_
    refine wk_iconst xd_d49c0471 ?_
    refine wk_aload_n xd_feef9e28 rfl ?_
    refine wk_getR xf_4830a2fe xd_c9adf661 ?_
    refine wk_iconst xd_9f15f3b1 ?_
    refine wk_bipush xd_c973f46b ?_
    refine aw_acp (n := 16) xl_a21f840f xf_d11c708b (by decide) (by decide) (by decide) rfl xd_b94e89d6 ?_
    refine wk_aload_n xd_42aad2bf rfl ?_
    refine wk_getR xf_d5b6c67d xd_eb40bdf7 ?_
    refine wk_iconst xd_04661965 ?_
    refine wk_aload_n xd_097363a1 rfl ?_
    refine wk_getR xf_a82694e1 xd_b5766702 ?_
    refine wk_iconst xd_39ef352d ?_
    refine wk_iconst xd_db47f72d ?_
    refine aw_acp (n := 16) xl_a21f840f xf_077c4b4b (by decide) (by decide) (by decide) rfl xd_60a9aa0d ?_
    refine wk_aload_n xd_a1e378e5 rfl ?_
    refine wk_getR xf_f8695501 xd_6c53e229 ?_
    refine wk_iconst xd_978477ed ?_
    refine wk_aload_n xd_86897f35 rfl ?_
    refine wk_getR xf_92b4c56e xd_451eb816 ?_
    refine wk_iconst xd_fe3d4cf9 ?_
    refine wk_bipush xd_860b82a3 ?_
    refine aw_acp (n := 16) xl_a21f840f xf_a5c53f91 (by decide) (by decide) (by decide) rfl xd_68a0f2f0 ?_
    refine wk_aload_n xd_4e134f37 rfl ?_
    refine wk_getR xf_6ee7fbc7 xd_45a6f506 ?_
    refine wk_iconst xd_0be0a9ae ?_
    refine wk_aload_n xd_e85c2dc0 rfl ?_
    refine wk_getR xf_9b86501f xd_8bf609ae ?_
    refine wk_iconst xd_f92a786e ?_
    refine wk_bipush xd_a32c7ae0 ?_
    refine aw_acp (n := 16) xl_a21f840f xf_bed1d5c1 (by decide) (by decide) (by decide) rfl xd_008faa78 ?_
    refine wk_aload_n xd_54196157 rfl ?_
    refine wk_getR xf_ebc9f8a4 xd_a91b4238 ?_
    refine wk_iconst xd_625992ba ?_
    refine wk_aload_n xd_aa48aa88 rfl ?_
    refine wk_getR xf_df7315c6 xd_951c5368 ?_
    refine wk_iconst xd_e6767a47 ?_
    refine wk_bipush xd_9e40b41d ?_
    refine aw_acp (n := 16) xl_a21f840f xf_84bd724c (by decide) (by decide) (by decide) rfl xd_70473495 ?_
    refine wk_aload_n xd_160de61f rfl ?_
    refine wk_getR xf_22227f30 xd_ce8d174b ?_
    refine wk_iconst xd_7d059093 ?_
    refine wk_aload_n xd_b04284e8 rfl ?_
    refine wk_getR xf_f431f81b xd_00ddebe3 ?_
    refine wk_iconst xd_8fcf4153 ?_
    refine wk_bipush xd_380331a7 ?_
    refine aw_acp (n := 16) xl_a21f840f xf_90a10afc (by decide) (by decide) (by decide) rfl xd_cd6cc550 ?_
    refine wk_aload_n xd_bc3a9a2f rfl ?_
    refine wk_getR xf_2450e04c xd_6a3e4cd5 ?_
    refine wk_iconst xd_f976d9fd ?_
    refine wk_aload_n xd_9b509dff rfl ?_
    refine wk_getR xf_cbd8d49d xd_437316ea ?_
    refine wk_iconst xd_90cfe2e9 ?_
    refine wk_iconst xd_726720e9 ?_
    refine aw_acp (n := 16) xl_a21f840f xf_681bad4b (by decide) (by decide) (by decide) rfl xd_a6624489 ?_
    refine wk_aload_n xd_3dfa1dbd rfl ?_
    refine wk_getR xf_6ad57aef xd_ec3fafad ?_
    refine wk_iconst xd_83f3e594 ?_
    refine wk_aload_n xd_c3129544 rfl ?_
    refine wk_getR xf_a44a15d8 xd_b2097558 ?_
    refine wk_iconst xd_03c86ed4 ?_
    refine wk_iconst xd_e160acd4 ?_
    refine aw_acp (n := 16) xl_a21f840f xf_e6172f4a (by decide) (by decide) (by decide) rfl xd_4fc25200 ?_
    refine wk_aload_n xd_09ee417d rfl ?_
    refine wk_getR xf_369c14b9 xd_e08a1108 ?_
    refine wk_iconst xd_44219c40 ?_
    refine wk_aload_n xd_42d212d6 rfl ?_
    refine wk_getR xf_26a8dd70 xd_92b7584a ?_
    refine wk_iconst xd_79a8b008 ?_
    refine wk_bipush xd_019e7e52 ?_
    refine aw_acp (n := 16) xl_a21f840f xf_db85fde0 (by decide) (by decide) (by decide) rfl xd_f6ff5ecc ?_
    refine wk_aload_n xd_9ca730af rfl ?_
    refine wk_getR xf_5fbacaab xd_d7bd81a0 ?_
    refine wk_iconst xd_e2db5adc ?_
    refine wk_aload_n xd_56be0623 rfl ?_
    refine wk_getR xf_43c8776c xd_429d6e75 ?_
    refine wk_iconst xd_a952ad1c ?_
    refine wk_bipush xd_a6fa8f7c ?_
    refine aw_acp (n := 16) xl_a21f840f xf_e1a9ba72 (by decide) (by decide) (by decide) rfl xd_e9c8c24b ?_
    refine wk_aload_n xd_0d1bc059 rfl ?_
    refine wk_getR xf_38cfa6d7 xd_049db24d ?_
    refine wk_iconst xd_6a86adc6 ?_
    refine wk_aload_n xd_462793f2 rfl ?_
    refine wk_getR xf_2080c8ea xd_76a0fb0f ?_
    refine wk_iconst xd_ba7cb0d2 ?_
    refine wk_bipush xd_37467f8a ?_
    refine aw_acp (n := 16) xl_a21f840f xf_729a2948 (by decide) (by decide) (by decide) rfl xd_e1c19ab6 ?_
    refine wk_aload_n xd_fa62df65 rfl ?_
    refine wk_getR xf_3a6b8105 xd_e8c1522d ?_
    refine wk_iconst xd_cc9989ef ?_
    refine wk_aload_n xd_e94025e6 rfl ?_
    refine wk_getR xf_a5624365 xd_68abf697 ?_
    refine wk_iconst xd_87107e2f ?_
    refine wk_bipush xd_1904acb9 ?_
    refine aw_acp (n := 16) xl_a21f840f xf_0513155c (by decide) (by decide) (by decide) rfl xd_ad69e753 ?_
    refine wk_aload_n xd_55056971 rfl ?_
    refine wk_getR xf_9da787ef xd_c8162ad0 ?_
    refine wk_iconst xd_1c6394fb ?_
    refine wk_aload_n xd_1e393ada rfl ?_
    refine wk_getR xf_c62afce3 xd_ba2b6392 ?_
    refine wk_iconst xd_2153fb95 ?_
    refine wk_bipush xd_df6584f2 ?_
    refine aw_acp (n := 16) xl_a21f840f xf_8f8c097d (by decide) (by decide) (by decide) rfl xd_2c22f59e ?_
    refine wk_return xd_8a066d7b xr_59ac3bf1 ⟨_, rfl, (aw_cpG xf_0e78b82c (aw_cpG xf_c5246b89 (aw_cpG2 xf_57ea5026 (aw_cpG2 xf_608b900d (aw_cpG xf_95e9fa3a (aw_cpG xf_5eb5299f (aw_cpG xf_d8215b31 (aw_cpG xf_137d8894 (aw_cpG xf_01ec1de5 (aw_cpG xf_cab0ce40 (aw_cpG xf_3be67c95 (aw_cpG xf_f0baaf30 (aw_cpG xf_762edd9e hG7_))))))))))))), fun k i hk => ?_, ?_, fun f hf => ?_⟩
    · rw [aw_cp_o (by omega), aw_cp_o (by omega), aw_cp_o (by omega), aw_cp_o (by omega), aw_cp_o (by omega), aw_cp_o (by omega), aw_cp_o (by omega), aw_cp_o (by omega), aw_cp_o (by omega), aw_cp_o (by omega), aw_cp_o (by omega), aw_cp_o (by omega), aw_cp_o (by omega), hs_u1_ne (by omega), hs_u1_ne (by omega), hs_u1_ne (by omega), hs_u1_ne (by omega), hs_u1_ne (by omega), hs_u1_ne (by omega), hs_u1_ne (by omega)]
    · rw [aw_cp_o (by omega), aw_cp_o (by omega), aw_cp_o (by omega), aw_cp_o (by omega), aw_cp_o (by omega), aw_cp_o (by omega), aw_cp_o (by omega), aw_cp_o (by omega), aw_cp_o (by omega), aw_cp_o (by omega), aw_cp_o (by omega), aw_cp_o (by omega), aw_cp_o (by omega), hs_u1_ne (by omega), hs_u1_ne (by omega), hs_u1_self, hs_u1_ne (by omega), hs_u1_ne (by omega), hs_u1_ne (by omega), hs_u1_ne (by omega)]
    · rw [aw_cp_o (by omega), aw_cp_o (by omega), aw_cp_o (by omega), aw_cp_o (by omega), aw_cp_o (by omega), aw_cp_i (by omega), aw_cp_o (by omega), aw_cp_o (by omega), aw_cp_o (by omega), aw_cp_o (by omega), aw_cp_o (by omega), aw_cp_o (by omega), aw_cp_o (by omega), hs_u1_ne (by omega), hs_u1_ne (by omega), hs_u1_ne (by omega), hs_u1_ne (by omega), hs_u1_ne (by omega), hs_u1_ne (by omega), hs_u1_ne (by omega)]
  obtain ⟨o, hC, w', rfl, a⟩ := h
  exact ⟨w', hC, a⟩
theorem jcv_4_158 {w : cm_W} (hG : sv_w sg w) : ∃ w' : cm_W, cm_C 1 85 [.inr (.inr (some 4)), .inr (.inr (some 158))] w (none, w') ∧ sv_w sg w' ∧ (∀ k i, ¬ (4 ≤ k ∧ k ≤ 17) → w'.1 k i = w.1 k i) ∧ w'.1 4 4 = w.1 158 4 ∧ (∀ f, f < 4 → w'.1 12 f = w.1 166 f) := by
  have h : ∃ o, cm_C (0 + 1) 85 [.inr (.inr (some 4)), .inr (.inr (some 158))] w o ∧ (fun o : cm_O => ∃ w', o = (none, w') ∧ sv_w sg w' ∧ (∀ k i, ¬ (4 ≤ k ∧ k ≤ 17) → w'.1 k i = w.1 k i) ∧ w'.1 4 4 = w.1 158 4 ∧ (∀ f, f < 4 → w'.1 12 f = w.1 166 f)) o := by
    refine wk_entry (by rw [xm_6111ea63]; exact Nat.le_of_ble_eq_true rfl) ?_
    rw [show cm_ent 85 [.inr (.inr (some 4)), .inr (.inr (some 158))] = [some (.inr (.inr (some 4))), some (.inr (.inr (some 158)))] from by unfold cm_ent; rw [xm_6111ea63]; rfl]
    refine wk_aload_n xd_3a930f2e rfl ?_
    refine wk_aload_n xd_9c80cc4a rfl ?_
    refine wk_getI xf_606e0323 xd_4ec839a7 ?_
    refine wk_putI xf_a9ae451d (fun ci => wk_fitI ci) xd_c8a83ea6 ?_
    have hG1_ : sv_w sg (cm_u1 w 4 0 (w.1 158 0)) := sv_w_u1 hG (by rw [xg_c2ec6f90]; exact sv_in_top _)
    refine wk_aload_n xd_3a2a4c08 rfl ?_
    refine wk_aload_n xd_9c398f6c rfl ?_
    refine wk_getI xf_6cabe9cf xd_5d3993dc ?_
    refine wk_putI xf_8485ff38 (fun ci => wk_fitI ci) xd_d10589b6 ?_
    have hG2_ : sv_w sg (cm_u1 (cm_u1 w 4 0 (w.1 158 0)) 4 1 ((cm_u1 w 4 0 (w.1 158 0)).1 158 1)) := sv_w_u1 hG1_ (by rw [xg_2d2e04ae]; exact sv_in_top _)
    refine wk_aload_n xd_b94e31f1 rfl ?_
    refine wk_aload_n xd_1f5df295 rfl ?_
    refine wk_getI xf_097635f6 xd_f36297ba ?_
    refine wk_putI xf_3926f0cd (fun ci => wk_fitI ci) xd_3164d5c2 ?_
    have hG3_ : sv_w sg (cm_u1 (cm_u1 (cm_u1 w 4 0 (w.1 158 0)) 4 1 ((cm_u1 w 4 0 (w.1 158 0)).1 158 1)) 4 2 ((cm_u1 (cm_u1 w 4 0 (w.1 158 0)) 4 1 ((cm_u1 w 4 0 (w.1 158 0)).1 158 1)).1 158 2)) := sv_w_u1 hG2_ (by rw [xg_c619bfad]; exact sv_in_top _)
    refine wk_aload_n xd_0cc64b30 rfl ?_
    refine wk_aload_n xd_aad58854 rfl ?_
    refine wk_getI xf_eff52ef1 xd_b7a1c6ec ?_
    refine wk_putI xf_88a1ca67 (fun ci => wk_fitI ci) xd_ec2b05ca ?_
    have hG4_ : sv_w sg (cm_u1 (cm_u1 (cm_u1 (cm_u1 w 4 0 (w.1 158 0)) 4 1 ((cm_u1 w 4 0 (w.1 158 0)).1 158 1)) 4 2 ((cm_u1 (cm_u1 w 4 0 (w.1 158 0)) 4 1 ((cm_u1 w 4 0 (w.1 158 0)).1 158 1)).1 158 2)) 4 3 ((cm_u1 (cm_u1 (cm_u1 w 4 0 (w.1 158 0)) 4 1 ((cm_u1 w 4 0 (w.1 158 0)).1 158 1)) 4 2 ((cm_u1 (cm_u1 w 4 0 (w.1 158 0)) 4 1 ((cm_u1 w 4 0 (w.1 158 0)).1 158 1)).1 158 2)).1 158 3)) := sv_w_u1 hG3_ (by have e := hG 158 3; rw [xg_64f1c9c4] at e; rw [xg_edd1578a]; exact e)
    refine wk_aload_n xd_60295c6d rfl ?_
    refine wk_aload_n xd_c63a9f09 rfl ?_
    refine wk_getI xf_f0d0cdfd xd_72fa9a36 ?_
    refine wk_putI xf_0fb07bde (fun ci => wk_fitI ci) xd_fec6805c ?_
    have hG5_ : sv_w sg (cm_u1 (cm_u1 (cm_u1 (cm_u1 (cm_u1 w 4 0 (w.1 158 0)) 4 1 ((cm_u1 w 4 0 (w.1 158 0)).1 158 1)) 4 2 ((cm_u1 (cm_u1 w 4 0 (w.1 158 0)) 4 1 ((cm_u1 w 4 0 (w.1 158 0)).1 158 1)).1 158 2)) 4 3 ((cm_u1 (cm_u1 (cm_u1 w 4 0 (w.1 158 0)) 4 1 ((cm_u1 w 4 0 (w.1 158 0)).1 158 1)) 4 2 ((cm_u1 (cm_u1 w 4 0 (w.1 158 0)) 4 1 ((cm_u1 w 4 0 (w.1 158 0)).1 158 1)).1 158 2)).1 158 3)) 4 4 ((cm_u1 (cm_u1 (cm_u1 (cm_u1 w 4 0 (w.1 158 0)) 4 1 ((cm_u1 w 4 0 (w.1 158 0)).1 158 1)) 4 2 ((cm_u1 (cm_u1 w 4 0 (w.1 158 0)) 4 1 ((cm_u1 w 4 0 (w.1 158 0)).1 158 1)).1 158 2)) 4 3 ((cm_u1 (cm_u1 (cm_u1 w 4 0 (w.1 158 0)) 4 1 ((cm_u1 w 4 0 (w.1 158 0)).1 158 1)) 4 2 ((cm_u1 (cm_u1 w 4 0 (w.1 158 0)) 4 1 ((cm_u1 w 4 0 (w.1 158 0)).1 158 1)).1 158 2)).1 158 3)).1 158 4)) := sv_w_u1 hG4_ (by have e := hG 158 4; rw [xg_36a29d11] at e; rw [xg_bf82035f]; exact e)
    refine wk_aload_n xd_bca7b8f3 rfl ?_
    refine wk_aload_n xd_1ab47b97 rfl ?_
    refine wk_getI xf_1658e49a xd_39724907 ?_
    refine wk_putI xf_578860bb (fun ci => wk_fitI ci) xd_4ef31996 ?_
    have hG6_ : sv_w sg (cm_u1 (cm_u1 (cm_u1 (cm_u1 (cm_u1 (cm_u1 w 4 0 (w.1 158 0)) 4 1 ((cm_u1 w 4 0 (w.1 158 0)).1 158 1)) 4 2 ((cm_u1 (cm_u1 w 4 0 (w.1 158 0)) 4 1 ((cm_u1 w 4 0 (w.1 158 0)).1 158 1)).1 158 2)) 4 3 ((cm_u1 (cm_u1 (cm_u1 w 4 0 (w.1 158 0)) 4 1 ((cm_u1 w 4 0 (w.1 158 0)).1 158 1)) 4 2 ((cm_u1 (cm_u1 w 4 0 (w.1 158 0)) 4 1 ((cm_u1 w 4 0 (w.1 158 0)).1 158 1)).1 158 2)).1 158 3)) 4 4 ((cm_u1 (cm_u1 (cm_u1 (cm_u1 w 4 0 (w.1 158 0)) 4 1 ((cm_u1 w 4 0 (w.1 158 0)).1 158 1)) 4 2 ((cm_u1 (cm_u1 w 4 0 (w.1 158 0)) 4 1 ((cm_u1 w 4 0 (w.1 158 0)).1 158 1)).1 158 2)) 4 3 ((cm_u1 (cm_u1 (cm_u1 w 4 0 (w.1 158 0)) 4 1 ((cm_u1 w 4 0 (w.1 158 0)).1 158 1)) 4 2 ((cm_u1 (cm_u1 w 4 0 (w.1 158 0)) 4 1 ((cm_u1 w 4 0 (w.1 158 0)).1 158 1)).1 158 2)).1 158 3)).1 158 4)) 4 5 ((cm_u1 (cm_u1 (cm_u1 (cm_u1 (cm_u1 w 4 0 (w.1 158 0)) 4 1 ((cm_u1 w 4 0 (w.1 158 0)).1 158 1)) 4 2 ((cm_u1 (cm_u1 w 4 0 (w.1 158 0)) 4 1 ((cm_u1 w 4 0 (w.1 158 0)).1 158 1)).1 158 2)) 4 3 ((cm_u1 (cm_u1 (cm_u1 w 4 0 (w.1 158 0)) 4 1 ((cm_u1 w 4 0 (w.1 158 0)).1 158 1)) 4 2 ((cm_u1 (cm_u1 w 4 0 (w.1 158 0)) 4 1 ((cm_u1 w 4 0 (w.1 158 0)).1 158 1)).1 158 2)).1 158 3)) 4 4 ((cm_u1 (cm_u1 (cm_u1 (cm_u1 w 4 0 (w.1 158 0)) 4 1 ((cm_u1 w 4 0 (w.1 158 0)).1 158 1)) 4 2 ((cm_u1 (cm_u1 w 4 0 (w.1 158 0)) 4 1 ((cm_u1 w 4 0 (w.1 158 0)).1 158 1)).1 158 2)) 4 3 ((cm_u1 (cm_u1 (cm_u1 w 4 0 (w.1 158 0)) 4 1 ((cm_u1 w 4 0 (w.1 158 0)).1 158 1)) 4 2 ((cm_u1 (cm_u1 w 4 0 (w.1 158 0)) 4 1 ((cm_u1 w 4 0 (w.1 158 0)).1 158 1)).1 158 2)).1 158 3)).1 158 4)).1 158 5)) := sv_w_u1 hG5_ (by have e := hG 158 5; rw [xg_614dc78a] at e; rw [xg_e86d59c4]; exact e)
    refine wk_aload_n xd_bc1efbd5 rfl ?_
    refine wk_aload_n xd_1a0d38b1 rfl ?_
    refine wk_getI xf_a7b29a04 xd_88457819 ?_
    refine wk_putI xf_ab12ff10 (fun ci => wk_fitI ci) xd_04796273 ?_
    have hG7_ : sv_w sg (cm_u1 (cm_u1 (cm_u1 (cm_u1 (cm_u1 (cm_u1 (cm_u1 w 4 0 (w.1 158 0)) 4 1 ((cm_u1 w 4 0 (w.1 158 0)).1 158 1)) 4 2 ((cm_u1 (cm_u1 w 4 0 (w.1 158 0)) 4 1 ((cm_u1 w 4 0 (w.1 158 0)).1 158 1)).1 158 2)) 4 3 ((cm_u1 (cm_u1 (cm_u1 w 4 0 (w.1 158 0)) 4 1 ((cm_u1 w 4 0 (w.1 158 0)).1 158 1)) 4 2 ((cm_u1 (cm_u1 w 4 0 (w.1 158 0)) 4 1 ((cm_u1 w 4 0 (w.1 158 0)).1 158 1)).1 158 2)).1 158 3)) 4 4 ((cm_u1 (cm_u1 (cm_u1 (cm_u1 w 4 0 (w.1 158 0)) 4 1 ((cm_u1 w 4 0 (w.1 158 0)).1 158 1)) 4 2 ((cm_u1 (cm_u1 w 4 0 (w.1 158 0)) 4 1 ((cm_u1 w 4 0 (w.1 158 0)).1 158 1)).1 158 2)) 4 3 ((cm_u1 (cm_u1 (cm_u1 w 4 0 (w.1 158 0)) 4 1 ((cm_u1 w 4 0 (w.1 158 0)).1 158 1)) 4 2 ((cm_u1 (cm_u1 w 4 0 (w.1 158 0)) 4 1 ((cm_u1 w 4 0 (w.1 158 0)).1 158 1)).1 158 2)).1 158 3)).1 158 4)) 4 5 ((cm_u1 (cm_u1 (cm_u1 (cm_u1 (cm_u1 w 4 0 (w.1 158 0)) 4 1 ((cm_u1 w 4 0 (w.1 158 0)).1 158 1)) 4 2 ((cm_u1 (cm_u1 w 4 0 (w.1 158 0)) 4 1 ((cm_u1 w 4 0 (w.1 158 0)).1 158 1)).1 158 2)) 4 3 ((cm_u1 (cm_u1 (cm_u1 w 4 0 (w.1 158 0)) 4 1 ((cm_u1 w 4 0 (w.1 158 0)).1 158 1)) 4 2 ((cm_u1 (cm_u1 w 4 0 (w.1 158 0)) 4 1 ((cm_u1 w 4 0 (w.1 158 0)).1 158 1)).1 158 2)).1 158 3)) 4 4 ((cm_u1 (cm_u1 (cm_u1 (cm_u1 w 4 0 (w.1 158 0)) 4 1 ((cm_u1 w 4 0 (w.1 158 0)).1 158 1)) 4 2 ((cm_u1 (cm_u1 w 4 0 (w.1 158 0)) 4 1 ((cm_u1 w 4 0 (w.1 158 0)).1 158 1)).1 158 2)) 4 3 ((cm_u1 (cm_u1 (cm_u1 w 4 0 (w.1 158 0)) 4 1 ((cm_u1 w 4 0 (w.1 158 0)).1 158 1)) 4 2 ((cm_u1 (cm_u1 w 4 0 (w.1 158 0)) 4 1 ((cm_u1 w 4 0 (w.1 158 0)).1 158 1)).1 158 2)).1 158 3)).1 158 4)).1 158 5)) 4 6 ((cm_u1 (cm_u1 (cm_u1 (cm_u1 (cm_u1 (cm_u1 w 4 0 (w.1 158 0)) 4 1 ((cm_u1 w 4 0 (w.1 158 0)).1 158 1)) 4 2 ((cm_u1 (cm_u1 w 4 0 (w.1 158 0)) 4 1 ((cm_u1 w 4 0 (w.1 158 0)).1 158 1)).1 158 2)) 4 3 ((cm_u1 (cm_u1 (cm_u1 w 4 0 (w.1 158 0)) 4 1 ((cm_u1 w 4 0 (w.1 158 0)).1 158 1)) 4 2 ((cm_u1 (cm_u1 w 4 0 (w.1 158 0)) 4 1 ((cm_u1 w 4 0 (w.1 158 0)).1 158 1)).1 158 2)).1 158 3)) 4 4 ((cm_u1 (cm_u1 (cm_u1 (cm_u1 w 4 0 (w.1 158 0)) 4 1 ((cm_u1 w 4 0 (w.1 158 0)).1 158 1)) 4 2 ((cm_u1 (cm_u1 w 4 0 (w.1 158 0)) 4 1 ((cm_u1 w 4 0 (w.1 158 0)).1 158 1)).1 158 2)) 4 3 ((cm_u1 (cm_u1 (cm_u1 w 4 0 (w.1 158 0)) 4 1 ((cm_u1 w 4 0 (w.1 158 0)).1 158 1)) 4 2 ((cm_u1 (cm_u1 w 4 0 (w.1 158 0)) 4 1 ((cm_u1 w 4 0 (w.1 158 0)).1 158 1)).1 158 2)).1 158 3)).1 158 4)) 4 5 ((cm_u1 (cm_u1 (cm_u1 (cm_u1 (cm_u1 w 4 0 (w.1 158 0)) 4 1 ((cm_u1 w 4 0 (w.1 158 0)).1 158 1)) 4 2 ((cm_u1 (cm_u1 w 4 0 (w.1 158 0)) 4 1 ((cm_u1 w 4 0 (w.1 158 0)).1 158 1)).1 158 2)) 4 3 ((cm_u1 (cm_u1 (cm_u1 w 4 0 (w.1 158 0)) 4 1 ((cm_u1 w 4 0 (w.1 158 0)).1 158 1)) 4 2 ((cm_u1 (cm_u1 w 4 0 (w.1 158 0)) 4 1 ((cm_u1 w 4 0 (w.1 158 0)).1 158 1)).1 158 2)).1 158 3)) 4 4 ((cm_u1 (cm_u1 (cm_u1 (cm_u1 w 4 0 (w.1 158 0)) 4 1 ((cm_u1 w 4 0 (w.1 158 0)).1 158 1)) 4 2 ((cm_u1 (cm_u1 w 4 0 (w.1 158 0)) 4 1 ((cm_u1 w 4 0 (w.1 158 0)).1 158 1)).1 158 2)) 4 3 ((cm_u1 (cm_u1 (cm_u1 w 4 0 (w.1 158 0)) 4 1 ((cm_u1 w 4 0 (w.1 158 0)).1 158 1)) 4 2 ((cm_u1 (cm_u1 w 4 0 (w.1 158 0)) 4 1 ((cm_u1 w 4 0 (w.1 158 0)).1 158 1)).1 158 2)).1 158 3)).1 158 4)).1 158 5)).1 158 6)) := sv_w_u1 hG6_ (by have e := hG 158 6; rw [xg_cf268fa1] at e; rw [xg_460611ef]; exact e)
    refine wk_aload_n xd_ed28861e rfl ?_
    refine wk_getR xf_54de0556 xd_65ccc16c ?_
    refine wk_iconst xd_d49c0471 ?_
    refine wk_aload_n xd_feef9e28 rfl ?_
    refine wk_getR xf_4830a2fe xd_c9adf661 ?_
    refine wk_iconst xd_9f15f3b1 ?_
    refine wk_bipush xd_c973f46b ?_
    refine aw_acp (n := 16) xl_a21f840f xf_ce17849e (by decide) (by decide) (by decide) rfl xd_b94e89d6 ?_
    refine wk_aload_n xd_42aad2bf rfl ?_
    refine wk_getR xf_e25e2cec xd_eb40bdf7 ?_
    refine wk_iconst xd_04661965 ?_
    refine wk_aload_n xd_097363a1 rfl ?_
    refine wk_getR xf_a82694e1 xd_b5766702 ?_
    refine wk_iconst xd_39ef352d ?_
    refine wk_iconst xd_db47f72d ?_
    refine aw_acp (n := 16) xl_a21f840f xf_3e1549e8 (by decide) (by decide) (by decide) rfl xd_60a9aa0d ?_
    refine wk_aload_n xd_a1e378e5 rfl ?_
    refine wk_getR xf_6f64604d xd_6c53e229 ?_
    refine wk_iconst xd_978477ed ?_
    refine wk_aload_n xd_86897f35 rfl ?_
    refine wk_getR xf_92b4c56e xd_451eb816 ?_
    refine wk_iconst xd_fe3d4cf9 ?_
    refine wk_bipush xd_860b82a3 ?_
    refine aw_acp (n := 16) xl_a21f840f xf_3c49e2ef (by decide) (by decide) (by decide) rfl xd_68a0f2f0 ?_
    refine wk_aload_n xd_4e134f37 rfl ?_
    refine wk_getR xf_5fee439a xd_45a6f506 ?_
    refine wk_iconst xd_0be0a9ae ?_
    refine wk_aload_n xd_e85c2dc0 rfl ?_
    refine wk_getR xf_9b86501f xd_8bf609ae ?_
    refine wk_iconst xd_f92a786e ?_
    refine wk_bipush xd_a32c7ae0 ?_
    refine aw_acp (n := 16) xl_a21f840f xf_4701bdf4 (by decide) (by decide) (by decide) rfl xd_008faa78 ?_
    refine wk_aload_n xd_54196157 rfl ?_
    refine wk_getR xf_ba9cf5b2 xd_a91b4238 ?_
    refine wk_iconst xd_625992ba ?_
    refine wk_aload_n xd_aa48aa88 rfl ?_
    refine wk_getR xf_df7315c6 xd_951c5368 ?_
    refine wk_iconst xd_e6767a47 ?_
    refine wk_bipush xd_9e40b41d ?_
    refine aw_acp (n := 16) xl_a21f840f xf_1d31af32 (by decide) (by decide) (by decide) rfl xd_70473495 ?_
    refine wk_aload_n xd_160de61f rfl ?_
    refine wk_getR xf_d392adfb xd_ce8d174b ?_
    refine wk_iconst xd_7d059093 ?_
    refine wk_aload_n xd_b04284e8 rfl ?_
    refine wk_getR xf_f431f81b xd_00ddebe3 ?_
    refine wk_iconst xd_8fcf4153 ?_
    refine wk_bipush xd_380331a7 ?_
    refine aw_acp (n := 16) xl_a21f840f xf_a9c8085f (by decide) (by decide) (by decide) rfl xd_cd6cc550 ?_
    refine wk_aload_n xd_bc3a9a2f rfl ?_
    refine wk_getR xf_2f063e37 xd_6a3e4cd5 ?_
    refine wk_iconst xd_f976d9fd ?_
    refine wk_aload_n xd_9b509dff rfl ?_
    refine wk_getR xf_cbd8d49d xd_437316ea ?_
    refine wk_iconst xd_90cfe2e9 ?_
    refine wk_iconst xd_726720e9 ?_
    refine aw_acp (n := 16) xl_a21f840f xf_ab94a358 (by decide) (by decide) (by decide) rfl xd_a6624489 ?_
    refine wk_aload_n xd_3dfa1dbd rfl ?_
    refine wk_getR xf_01df11df xd_ec3fafad ?_
    refine wk_iconst xd_83f3e594 ?_
    refine wk_aload_n xd_c3129544 rfl ?_
    refine wk_getR xf_a44a15d8 xd_b2097558 ?_
    refine wk_iconst xd_03c86ed4 ?_
    refine wk_iconst xd_e160acd4 ?_
    refine aw_acp (n := 16) xl_a21f840f xf_45c49412 (by decide) (by decide) (by decide) rfl xd_4fc25200 ?_
    refine wk_aload_n xd_09ee417d rfl ?_
    refine wk_getR xf_62580624 xd_e08a1108 ?_
    refine wk_iconst xd_44219c40 ?_
    refine wk_aload_n xd_42d212d6 rfl ?_
    refine wk_getR xf_26a8dd70 xd_92b7584a ?_
    refine wk_iconst xd_79a8b008 ?_
    refine wk_bipush xd_019e7e52 ?_
    refine aw_acp (n := 16) xl_a21f840f xf_47983f15 (by decide) (by decide) (by decide) rfl xd_f6ff5ecc ?_
    refine wk_aload_n xd_9ca730af rfl ?_
    refine wk_getR xf_f198d486 xd_d7bd81a0 ?_
    refine wk_iconst xd_e2db5adc ?_
    refine wk_aload_n xd_56be0623 rfl ?_
    refine wk_getR xf_43c8776c xd_429d6e75 ?_
    refine wk_iconst xd_a952ad1c ?_
    refine wk_bipush xd_a6fa8f7c ?_
    refine aw_acp (n := 16) xl_a21f840f xf_e779f4a3 (by decide) (by decide) (by decide) rfl xd_e9c8c24b ?_
    refine wk_aload_n xd_0d1bc059 rfl ?_
    refine wk_getR xf_f6b10db1 xd_049db24d ?_
    refine wk_iconst xd_6a86adc6 ?_
    refine wk_aload_n xd_462793f2 rfl ?_
    refine wk_getR xf_2080c8ea xd_76a0fb0f ?_
    refine wk_iconst xd_ba7cb0d2 ?_
    refine wk_bipush xd_37467f8a ?_
    refine aw_acp (n := 16) xl_a21f840f xf_9524a334 (by decide) (by decide) (by decide) rfl xd_e1c19ab6 ?_
    refine wk_aload_n xd_fa62df65 rfl ?_
    refine wk_getR xf_33191878 xd_e8c1522d ?_
    refine wk_iconst xd_cc9989ef ?_
    refine wk_aload_n xd_e94025e6 rfl ?_
    refine wk_getR xf_a5624365 xd_68abf697 ?_
    refine wk_iconst xd_87107e2f ?_
    refine wk_bipush xd_1904acb9 ?_
    refine aw_acp (n := 16) xl_a21f840f xf_680f5afe (by decide) (by decide) (by decide) rfl xd_ad69e753 ?_
    refine wk_aload_n xd_55056971 rfl ?_
    refine wk_getR xf_3430c14f xd_c8162ad0 ?_
    refine wk_iconst xd_1c6394fb ?_
    refine wk_aload_n xd_1e393ada rfl ?_
    refine wk_getR xf_c62afce3 xd_ba2b6392 ?_
    refine wk_iconst xd_2153fb95 ?_
    refine wk_bipush xd_df6584f2 ?_
    refine aw_acp (n := 16) xl_a21f840f xf_1a520d69 (by decide) (by decide) (by decide) rfl xd_2c22f59e ?_
    refine wk_return xd_8a066d7b xr_59ac3bf1 ⟨_, rfl, (aw_cpG xf_0e78b82c (aw_cpG xf_c5246b89 (aw_cpG2 xf_f20eeb2c (aw_cpG2 xf_2b614a2b (aw_cpG xf_95e9fa3a (aw_cpG xf_5eb5299f (aw_cpG xf_d8215b31 (aw_cpG xf_137d8894 (aw_cpG xf_01ec1de5 (aw_cpG xf_cab0ce40 (aw_cpG xf_3be67c95 (aw_cpG xf_f0baaf30 (aw_cpG xf_762edd9e hG7_))))))))))))), fun k i hk => ?_, ?_, fun f hf => ?_⟩
    · rw [aw_cp_o (by omega), aw_cp_o (by omega), aw_cp_o (by omega), aw_cp_o (by omega), aw_cp_o (by omega), aw_cp_o (by omega), aw_cp_o (by omega), aw_cp_o (by omega), aw_cp_o (by omega), aw_cp_o (by omega), aw_cp_o (by omega), aw_cp_o (by omega), aw_cp_o (by omega), hs_u1_ne (by omega), hs_u1_ne (by omega), hs_u1_ne (by omega), hs_u1_ne (by omega), hs_u1_ne (by omega), hs_u1_ne (by omega), hs_u1_ne (by omega)]
    · rw [aw_cp_o (by omega), aw_cp_o (by omega), aw_cp_o (by omega), aw_cp_o (by omega), aw_cp_o (by omega), aw_cp_o (by omega), aw_cp_o (by omega), aw_cp_o (by omega), aw_cp_o (by omega), aw_cp_o (by omega), aw_cp_o (by omega), aw_cp_o (by omega), aw_cp_o (by omega), hs_u1_ne (by omega), hs_u1_ne (by omega), hs_u1_self, hs_u1_ne (by omega), hs_u1_ne (by omega), hs_u1_ne (by omega), hs_u1_ne (by omega)]
    · rw [aw_cp_o (by omega), aw_cp_o (by omega), aw_cp_o (by omega), aw_cp_o (by omega), aw_cp_o (by omega), aw_cp_i (by omega), aw_cp_o (by omega), aw_cp_o (by omega), aw_cp_o (by omega), aw_cp_o (by omega), aw_cp_o (by omega), aw_cp_o (by omega), aw_cp_o (by omega), hs_u1_ne (by omega), hs_u1_ne (by omega), hs_u1_ne (by omega), hs_u1_ne (by omega), hs_u1_ne (by omega), hs_u1_ne (by omega), hs_u1_ne (by omega)]
  obtain ⟨o, hC, w', rfl, a⟩ := h
  exact ⟨w', hC, a⟩
theorem jcs_106_111 {w : cm_W} (hR : jR 111 w) (hG : sv_w sg w) : ∃ w' : cm_W, cm_C 1 65 [.inr (.inr (some 106)), .inr (.inr (some 111))] w (none, w') ∧ sv_w sg w' ∧ (∀ k i, ¬ (106 ≤ k ∧ k ≤ 110) → w'.1 k i = w.1 k i) ∧ jR 106 w' := by
  have h : ∃ o, cm_C (0 + 1) 65 [.inr (.inr (some 106)), .inr (.inr (some 111))] w o ∧ (fun o : cm_O => ∃ w', o = (none, w') ∧ sv_w sg w' ∧ (∀ k i, ¬ (106 ≤ k ∧ k ≤ 110) → w'.1 k i = w.1 k i) ∧ jR 106 w') o := by
    refine wk_entry (by rw [xm_5b1b8b13]; exact Nat.le_of_ble_eq_true rfl) ?_
    rw [show cm_ent 65 [.inr (.inr (some 106)), .inr (.inr (some 111))] = [some (.inr (.inr (some 106))), some (.inr (.inr (some 111)))] from by unfold cm_ent; rw [xm_5b1b8b13]; rfl]
    refine wk_aload_n xd_44488463 rfl ?_
    refine wk_aload_n xd_e25b4707 rfl ?_
    refine wk_getI xf_60b3c0b9 xd_393de862 ?_
    refine wk_putI xf_be76ee51 (fun ci => wk_fitI ci) xd_4ebcb8f3 ?_
    have hG1_ : sv_w sg (cm_u1 w 106 0 (w.1 111 0)) := sv_w_u1 hG (by rw [xg_f40c0c71]; exact sv_in_top _)
    refine wk_aload_n xd_44f1c745 rfl ?_
    refine wk_aload_n xd_e2e20421 rfl ?_
    refine wk_getI xf_2853784f xd_4e384934 ?_
    refine wk_putI xf_f69656a7 (fun ci => wk_fitI ci) xd_c204535e ?_
    have hG2_ : sv_w sg (cm_u1 (cm_u1 w 106 0 (w.1 111 0)) 106 1 ((cm_u1 w 106 0 (w.1 111 0)).1 111 1)) := sv_w_u1 hG1_ (by have e := hG 111 1; rw [xg_fc7eb1ec] at e; rw [xg_47bbf005]; exact e)
    refine wk_aload_n xd_8c3dfee7 rfl ?_
    refine wk_getR xf_c511c5bf xd_0beca543 ?_
    refine wk_iconst xd_aa1b2eaf ?_
    refine wk_aload_n xd_9ffae6d1 rfl ?_
    refine wk_getR xf_3bafb2d7 xd_a78d924e ?_
    refine wk_iconst xd_e192d96f ?_
    refine wk_bipush xd_3f961c88 ?_
    refine aw_acp (n := 48) xl_40d6e26e xf_893659ea (by decide) (by decide) (by decide) rfl xd_3fd2a1d5 ?_
    refine wk_aload_n xd_23bfaa46 rfl ?_
    refine wk_getR xf_9ed33484 xd_b5109219 ?_
    refine wk_iconst xd_7ae133bb ?_
    refine wk_aload_n xd_68661b58 rfl ?_
    refine wk_getR xf_9a8b4f5c xd_eb2648ec ?_
    refine wk_iconst xd_47d15cd5 ?_
    refine wk_bipush xd_f912d676 ?_
    refine aw_acp (n := 48) xl_40d6e26e xf_e2461cf4 (by decide) (by decide) (by decide) rfl xd_bd44452b ?_
    refine wk_aload_n xd_641e059f rfl ?_
    refine wk_getR xf_38a0ff7e xd_cb75f77b ?_
    refine wk_iconst xd_dca2b601 ?_
    refine wk_aload_n xd_aee2d1a6 rfl ?_
    refine wk_getR xf_9c1d5b7b xd_725e8b19 ?_
    refine wk_iconst xd_972b41c1 ?_
    refine wk_bipush xd_0e8e2bff ?_
    refine aw_acp (n := 48) xl_40d6e26e xf_68d900d5 (by decide) (by decide) (by decide) rfl xd_8af008ed ?_
    refine wk_return xd_7e26a5b4 xr_916ee063 ⟨_, rfl, (aw_cpG xf_208d4704 (aw_cpG xf_ebd194a1 (aw_cpG xf_1a872674 hG2_))), fun k i hk => ?_, jR_eq (w := w) (s := 111) ?_ (fun i hi => ?_) (fun i hi => ?_) hR⟩
    · rw [aw_cp_o (by omega), aw_cp_o (by omega), aw_cp_o (by omega), hs_u1_ne (by omega), hs_u1_ne (by omega)]
    · rw [aw_cp_o (by omega), aw_cp_o (by omega), aw_cp_o (by omega), hs_u1_self, hs_u1_ne (by omega)]
    · rw [aw_cp_o (by omega), aw_cp_o (by omega), aw_cp_i (by omega), hs_u1_ne (by omega), hs_u1_ne (by omega)]
    · rw [aw_cp_i (by omega), aw_cp_o (by omega), aw_cp_o (by omega), hs_u1_ne (by omega), hs_u1_ne (by omega)]
  obtain ⟨o, hC, w', rfl, a⟩ := h
  exact ⟨w', hC, a⟩
theorem jcs_152_106 {w : cm_W} (hR : jR 106 w) (hG : sv_w sg w) : ∃ w' : cm_W, cm_C 1 65 [.inr (.inr (some 152)), .inr (.inr (some 106))] w (none, w') ∧ sv_w sg w' ∧ (∀ k i, ¬ (152 ≤ k ∧ k ≤ 156) → w'.1 k i = w.1 k i) ∧ jR 152 w' := by
  have h : ∃ o, cm_C (0 + 1) 65 [.inr (.inr (some 152)), .inr (.inr (some 106))] w o ∧ (fun o : cm_O => ∃ w', o = (none, w') ∧ sv_w sg w' ∧ (∀ k i, ¬ (152 ≤ k ∧ k ≤ 156) → w'.1 k i = w.1 k i) ∧ jR 152 w') o := by
    refine wk_entry (by rw [xm_5b1b8b13]; exact Nat.le_of_ble_eq_true rfl) ?_
    rw [show cm_ent 65 [.inr (.inr (some 152)), .inr (.inr (some 106))] = [some (.inr (.inr (some 152))), some (.inr (.inr (some 106)))] from by unfold cm_ent; rw [xm_5b1b8b13]; rfl]
    refine wk_aload_n xd_44488463 rfl ?_
    refine wk_aload_n xd_e25b4707 rfl ?_
    refine wk_getI xf_c9bdf0b3 xd_393de862 ?_
    refine wk_putI xf_a05f663d (fun ci => wk_fitI ci) xd_4ebcb8f3 ?_
    have hG1_ : sv_w sg (cm_u1 w 152 0 (w.1 106 0)) := sv_w_u1 hG (by rw [xg_ea25841d]; exact sv_in_top _)
    refine wk_aload_n xd_44f1c745 rfl ?_
    refine wk_aload_n xd_e2e20421 rfl ?_
    refine wk_getI xf_815d4845 xd_4e384934 ?_
    refine wk_putI xf_e8bfdecb (fun ci => wk_fitI ci) xd_c204535e ?_
    have hG2_ : sv_w sg (cm_u1 (cm_u1 w 152 0 (w.1 106 0)) 152 1 ((cm_u1 w 152 0 (w.1 106 0)).1 106 1)) := sv_w_u1 hG1_ (by have e := hG 106 1; rw [xg_47bbf005] at e; rw [xg_834037b0]; exact e)
    refine wk_aload_n xd_8c3dfee7 rfl ?_
    refine wk_getR xf_3bafb2d7 xd_0beca543 ?_
    refine wk_iconst xd_aa1b2eaf ?_
    refine wk_aload_n xd_9ffae6d1 rfl ?_
    refine wk_getR xf_bc7bda50 xd_a78d924e ?_
    refine wk_iconst xd_e192d96f ?_
    refine wk_bipush xd_3f961c88 ?_
    refine aw_acp (n := 48) xl_40d6e26e xf_814cb6d3 (by decide) (by decide) (by decide) rfl xd_3fd2a1d5 ?_
    refine wk_aload_n xd_23bfaa46 rfl ?_
    refine wk_getR xf_9a8b4f5c xd_b5109219 ?_
    refine wk_iconst xd_7ae133bb ?_
    refine wk_aload_n xd_68661b58 rfl ?_
    refine wk_getR xf_475cf4b6 xd_eb2648ec ?_
    refine wk_iconst xd_47d15cd5 ?_
    refine wk_bipush xd_f912d676 ?_
    refine aw_acp (n := 48) xl_40d6e26e xf_36f60841 (by decide) (by decide) (by decide) rfl xd_bd44452b ?_
    refine wk_aload_n xd_641e059f rfl ?_
    refine wk_getR xf_9c1d5b7b xd_cb75f77b ?_
    refine wk_iconst xd_dca2b601 ?_
    refine wk_aload_n xd_aee2d1a6 rfl ?_
    refine wk_getR xf_41cae091 xd_725e8b19 ?_
    refine wk_iconst xd_972b41c1 ?_
    refine wk_bipush xd_0e8e2bff ?_
    refine aw_acp (n := 48) xl_40d6e26e xf_44ab5fd6 (by decide) (by decide) (by decide) rfl xd_8af008ed ?_
    refine wk_return xd_7e26a5b4 xr_916ee063 ⟨_, rfl, (aw_cpG xf_0577a8d8 (aw_cpG xf_ce2b7b7d (aw_cpG xf_d32e4bc5 hG2_))), fun k i hk => ?_, jR_eq (w := w) (s := 106) ?_ (fun i hi => ?_) (fun i hi => ?_) hR⟩
    · rw [aw_cp_o (by omega), aw_cp_o (by omega), aw_cp_o (by omega), hs_u1_ne (by omega), hs_u1_ne (by omega)]
    · rw [aw_cp_o (by omega), aw_cp_o (by omega), aw_cp_o (by omega), hs_u1_self, hs_u1_ne (by omega)]
    · rw [aw_cp_o (by omega), aw_cp_o (by omega), aw_cp_i (by omega), hs_u1_ne (by omega), hs_u1_ne (by omega)]
    · rw [aw_cp_i (by omega), aw_cp_o (by omega), aw_cp_o (by omega), hs_u1_ne (by omega), hs_u1_ne (by omega)]
  obtain ⟨o, hC, w', rfl, a⟩ := h
  exact ⟨w', hC, a⟩
theorem jcs_179_106 {w : cm_W} (hR : jR 106 w) (hG : sv_w sg w) : ∃ w' : cm_W, cm_C 1 65 [.inr (.inr (some 179)), .inr (.inr (some 106))] w (none, w') ∧ sv_w sg w' ∧ (∀ k i, ¬ (179 ≤ k ∧ k ≤ 183) → w'.1 k i = w.1 k i) ∧ jR 179 w' := by
  have h : ∃ o, cm_C (0 + 1) 65 [.inr (.inr (some 179)), .inr (.inr (some 106))] w o ∧ (fun o : cm_O => ∃ w', o = (none, w') ∧ sv_w sg w' ∧ (∀ k i, ¬ (179 ≤ k ∧ k ≤ 183) → w'.1 k i = w.1 k i) ∧ jR 179 w') o := by
    refine wk_entry (by rw [xm_5b1b8b13]; exact Nat.le_of_ble_eq_true rfl) ?_
    rw [show cm_ent 65 [.inr (.inr (some 179)), .inr (.inr (some 106))] = [some (.inr (.inr (some 179))), some (.inr (.inr (some 106)))] from by unfold cm_ent; rw [xm_5b1b8b13]; rfl]
    refine wk_aload_n xd_44488463 rfl ?_
    refine wk_aload_n xd_e25b4707 rfl ?_
    refine wk_getI xf_c9bdf0b3 xd_393de862 ?_
    refine wk_putI xf_b1917778 (fun ci => wk_fitI ci) xd_4ebcb8f3 ?_
    have hG1_ : sv_w sg (cm_u1 w 179 0 (w.1 106 0)) := sv_w_u1 hG (by rw [xg_fbeb9558]; exact sv_in_top _)
    refine wk_aload_n xd_44f1c745 rfl ?_
    refine wk_aload_n xd_e2e20421 rfl ?_
    refine wk_getI xf_815d4845 xd_4e384934 ?_
    refine wk_putI xf_f971cf8e (fun ci => wk_fitI ci) xd_c204535e ?_
    have hG2_ : sv_w sg (cm_u1 (cm_u1 w 179 0 (w.1 106 0)) 179 1 ((cm_u1 w 179 0 (w.1 106 0)).1 106 1)) := sv_w_u1 hG1_ (by have e := hG 106 1; rw [xg_47bbf005] at e; rw [xg_e258dd0b]; exact e)
    refine wk_aload_n xd_8c3dfee7 rfl ?_
    refine wk_getR xf_3bafb2d7 xd_0beca543 ?_
    refine wk_iconst xd_aa1b2eaf ?_
    refine wk_aload_n xd_9ffae6d1 rfl ?_
    refine wk_getR xf_60fd5cc0 xd_a78d924e ?_
    refine wk_iconst xd_e192d96f ?_
    refine wk_bipush xd_3f961c88 ?_
    refine aw_acp (n := 48) xl_40d6e26e xf_5ce1fb8e (by decide) (by decide) (by decide) rfl xd_3fd2a1d5 ?_
    refine wk_aload_n xd_23bfaa46 rfl ?_
    refine wk_getR xf_9a8b4f5c xd_b5109219 ?_
    refine wk_iconst xd_7ae133bb ?_
    refine wk_aload_n xd_68661b58 rfl ?_
    refine wk_getR xf_3b3fadfb xd_eb2648ec ?_
    refine wk_iconst xd_47d15cd5 ?_
    refine wk_bipush xd_f912d676 ?_
    refine aw_acp (n := 48) xl_40d6e26e xf_e527f999 (by decide) (by decide) (by decide) rfl xd_bd44452b ?_
    refine wk_aload_n xd_641e059f rfl ?_
    refine wk_getR xf_9c1d5b7b xd_cb75f77b ?_
    refine wk_iconst xd_dca2b601 ?_
    refine wk_aload_n xd_aee2d1a6 rfl ?_
    refine wk_getR xf_5df50c97 xd_725e8b19 ?_
    refine wk_iconst xd_972b41c1 ?_
    refine wk_bipush xd_0e8e2bff ?_
    refine aw_acp (n := 48) xl_40d6e26e xf_92aec58d (by decide) (by decide) (by decide) rfl xd_8af008ed ?_
    refine wk_return xd_7e26a5b4 xr_916ee063 ⟨_, rfl, (aw_cpG xf_79a5f9a0 (aw_cpG xf_ff318b0e (aw_cpG xf_346d58ab hG2_))), fun k i hk => ?_, jR_eq (w := w) (s := 106) ?_ (fun i hi => ?_) (fun i hi => ?_) hR⟩
    · rw [aw_cp_o (by omega), aw_cp_o (by omega), aw_cp_o (by omega), hs_u1_ne (by omega), hs_u1_ne (by omega)]
    · rw [aw_cp_o (by omega), aw_cp_o (by omega), aw_cp_o (by omega), hs_u1_self, hs_u1_ne (by omega)]
    · rw [aw_cp_o (by omega), aw_cp_o (by omega), aw_cp_i (by omega), hs_u1_ne (by omega), hs_u1_ne (by omega)]
    · rw [aw_cp_i (by omega), aw_cp_o (by omega), aw_cp_o (by omega), hs_u1_ne (by omega), hs_u1_ne (by omega)]
  obtain ⟨o, hC, w', rfl, a⟩ := h
  exact ⟨w', hC, a⟩
theorem jcs_106_152 {w : cm_W} (hR : jR 152 w) (hG : sv_w sg w) : ∃ w' : cm_W, cm_C 1 65 [.inr (.inr (some 106)), .inr (.inr (some 152))] w (none, w') ∧ sv_w sg w' ∧ (∀ k i, ¬ (106 ≤ k ∧ k ≤ 110) → w'.1 k i = w.1 k i) ∧ jR 106 w' := by
  have h : ∃ o, cm_C (0 + 1) 65 [.inr (.inr (some 106)), .inr (.inr (some 152))] w o ∧ (fun o : cm_O => ∃ w', o = (none, w') ∧ sv_w sg w' ∧ (∀ k i, ¬ (106 ≤ k ∧ k ≤ 110) → w'.1 k i = w.1 k i) ∧ jR 106 w') o := by
    refine wk_entry (by rw [xm_5b1b8b13]; exact Nat.le_of_ble_eq_true rfl) ?_
    rw [show cm_ent 65 [.inr (.inr (some 106)), .inr (.inr (some 152))] = [some (.inr (.inr (some 106))), some (.inr (.inr (some 152)))] from by unfold cm_ent; rw [xm_5b1b8b13]; rfl]
    refine wk_aload_n xd_44488463 rfl ?_
    refine wk_aload_n xd_e25b4707 rfl ?_
    refine wk_getI xf_d79478df xd_393de862 ?_
    refine wk_putI xf_be76ee51 (fun ci => wk_fitI ci) xd_4ebcb8f3 ?_
    have hG1_ : sv_w sg (cm_u1 w 106 0 (w.1 152 0)) := sv_w_u1 hG (by rw [xg_f40c0c71]; exact sv_in_top _)
    refine wk_aload_n xd_44f1c745 rfl ?_
    refine wk_aload_n xd_e2e20421 rfl ?_
    refine wk_getI xf_9f74c029 xd_4e384934 ?_
    refine wk_putI xf_f69656a7 (fun ci => wk_fitI ci) xd_c204535e ?_
    have hG2_ : sv_w sg (cm_u1 (cm_u1 w 106 0 (w.1 152 0)) 106 1 ((cm_u1 w 106 0 (w.1 152 0)).1 152 1)) := sv_w_u1 hG1_ (by have e := hG 152 1; rw [xg_834037b0] at e; rw [xg_47bbf005]; exact e)
    refine wk_aload_n xd_8c3dfee7 rfl ?_
    refine wk_getR xf_bc7bda50 xd_0beca543 ?_
    refine wk_iconst xd_aa1b2eaf ?_
    refine wk_aload_n xd_9ffae6d1 rfl ?_
    refine wk_getR xf_3bafb2d7 xd_a78d924e ?_
    refine wk_iconst xd_e192d96f ?_
    refine wk_bipush xd_3f961c88 ?_
    refine aw_acp (n := 48) xl_40d6e26e xf_9e45ddff (by decide) (by decide) (by decide) rfl xd_3fd2a1d5 ?_
    refine wk_aload_n xd_23bfaa46 rfl ?_
    refine wk_getR xf_475cf4b6 xd_b5109219 ?_
    refine wk_iconst xd_7ae133bb ?_
    refine wk_aload_n xd_68661b58 rfl ?_
    refine wk_getR xf_9a8b4f5c xd_eb2648ec ?_
    refine wk_iconst xd_47d15cd5 ?_
    refine wk_bipush xd_f912d676 ?_
    refine aw_acp (n := 48) xl_40d6e26e xf_0df7d357 (by decide) (by decide) (by decide) rfl xd_bd44452b ?_
    refine wk_aload_n xd_641e059f rfl ?_
    refine wk_getR xf_41cae091 xd_cb75f77b ?_
    refine wk_iconst xd_dca2b601 ?_
    refine wk_aload_n xd_aee2d1a6 rfl ?_
    refine wk_getR xf_9c1d5b7b xd_725e8b19 ?_
    refine wk_iconst xd_972b41c1 ?_
    refine wk_bipush xd_0e8e2bff ?_
    refine aw_acp (n := 48) xl_40d6e26e xf_7faa84c0 (by decide) (by decide) (by decide) rfl xd_8af008ed ?_
    refine wk_return xd_7e26a5b4 xr_916ee063 ⟨_, rfl, (aw_cpG xf_208d4704 (aw_cpG xf_ebd194a1 (aw_cpG xf_1a872674 hG2_))), fun k i hk => ?_, jR_eq (w := w) (s := 152) ?_ (fun i hi => ?_) (fun i hi => ?_) hR⟩
    · rw [aw_cp_o (by omega), aw_cp_o (by omega), aw_cp_o (by omega), hs_u1_ne (by omega), hs_u1_ne (by omega)]
    · rw [aw_cp_o (by omega), aw_cp_o (by omega), aw_cp_o (by omega), hs_u1_self, hs_u1_ne (by omega)]
    · rw [aw_cp_o (by omega), aw_cp_o (by omega), aw_cp_i (by omega), hs_u1_ne (by omega), hs_u1_ne (by omega)]
    · rw [aw_cp_i (by omega), aw_cp_o (by omega), aw_cp_o (by omega), hs_u1_ne (by omega), hs_u1_ne (by omega)]
  obtain ⟨o, hC, w', rfl, a⟩ := h
  exact ⟨w', hC, a⟩
theorem jcs_106_179 {w : cm_W} (hR : jR 179 w) (hG : sv_w sg w) : ∃ w' : cm_W, cm_C 1 65 [.inr (.inr (some 106)), .inr (.inr (some 179))] w (none, w') ∧ sv_w sg w' ∧ (∀ k i, ¬ (106 ≤ k ∧ k ≤ 110) → w'.1 k i = w.1 k i) ∧ jR 106 w' := by
  have h : ∃ o, cm_C (0 + 1) 65 [.inr (.inr (some 106)), .inr (.inr (some 179))] w o ∧ (fun o : cm_O => ∃ w', o = (none, w') ∧ sv_w sg w' ∧ (∀ k i, ¬ (106 ≤ k ∧ k ≤ 110) → w'.1 k i = w.1 k i) ∧ jR 106 w') o := by
    refine wk_entry (by rw [xm_5b1b8b13]; exact Nat.le_of_ble_eq_true rfl) ?_
    rw [show cm_ent 65 [.inr (.inr (some 106)), .inr (.inr (some 179))] = [some (.inr (.inr (some 106))), some (.inr (.inr (some 179)))] from by unfold cm_ent; rw [xm_5b1b8b13]; rfl]
    refine wk_aload_n xd_44488463 rfl ?_
    refine wk_aload_n xd_e25b4707 rfl ?_
    refine wk_getI xf_c65a699a xd_393de862 ?_
    refine wk_putI xf_be76ee51 (fun ci => wk_fitI ci) xd_4ebcb8f3 ?_
    have hG1_ : sv_w sg (cm_u1 w 106 0 (w.1 179 0)) := sv_w_u1 hG (by rw [xg_f40c0c71]; exact sv_in_top _)
    refine wk_aload_n xd_44f1c745 rfl ?_
    refine wk_aload_n xd_e2e20421 rfl ?_
    refine wk_getI xf_8ebad16c xd_4e384934 ?_
    refine wk_putI xf_f69656a7 (fun ci => wk_fitI ci) xd_c204535e ?_
    have hG2_ : sv_w sg (cm_u1 (cm_u1 w 106 0 (w.1 179 0)) 106 1 ((cm_u1 w 106 0 (w.1 179 0)).1 179 1)) := sv_w_u1 hG1_ (by have e := hG 179 1; rw [xg_e258dd0b] at e; rw [xg_47bbf005]; exact e)
    refine wk_aload_n xd_8c3dfee7 rfl ?_
    refine wk_getR xf_60fd5cc0 xd_0beca543 ?_
    refine wk_iconst xd_aa1b2eaf ?_
    refine wk_aload_n xd_9ffae6d1 rfl ?_
    refine wk_getR xf_3bafb2d7 xd_a78d924e ?_
    refine wk_iconst xd_e192d96f ?_
    refine wk_bipush xd_3f961c88 ?_
    refine aw_acp (n := 48) xl_40d6e26e xf_1e2a8a28 (by decide) (by decide) (by decide) rfl xd_3fd2a1d5 ?_
    refine wk_aload_n xd_23bfaa46 rfl ?_
    refine wk_getR xf_3b3fadfb xd_b5109219 ?_
    refine wk_iconst xd_7ae133bb ?_
    refine wk_aload_n xd_68661b58 rfl ?_
    refine wk_getR xf_9a8b4f5c xd_eb2648ec ?_
    refine wk_iconst xd_47d15cd5 ?_
    refine wk_bipush xd_f912d676 ?_
    refine aw_acp (n := 48) xl_40d6e26e xf_755acf36 (by decide) (by decide) (by decide) rfl xd_bd44452b ?_
    refine wk_aload_n xd_641e059f rfl ?_
    refine wk_getR xf_5df50c97 xd_cb75f77b ?_
    refine wk_iconst xd_dca2b601 ?_
    refine wk_aload_n xd_aee2d1a6 rfl ?_
    refine wk_getR xf_9c1d5b7b xd_725e8b19 ?_
    refine wk_iconst xd_972b41c1 ?_
    refine wk_bipush xd_0e8e2bff ?_
    refine aw_acp (n := 48) xl_40d6e26e xf_e6695c0c (by decide) (by decide) (by decide) rfl xd_8af008ed ?_
    refine wk_return xd_7e26a5b4 xr_916ee063 ⟨_, rfl, (aw_cpG xf_208d4704 (aw_cpG xf_ebd194a1 (aw_cpG xf_1a872674 hG2_))), fun k i hk => ?_, jR_eq (w := w) (s := 179) ?_ (fun i hi => ?_) (fun i hi => ?_) hR⟩
    · rw [aw_cp_o (by omega), aw_cp_o (by omega), aw_cp_o (by omega), hs_u1_ne (by omega), hs_u1_ne (by omega)]
    · rw [aw_cp_o (by omega), aw_cp_o (by omega), aw_cp_o (by omega), hs_u1_self, hs_u1_ne (by omega)]
    · rw [aw_cp_o (by omega), aw_cp_o (by omega), aw_cp_i (by omega), hs_u1_ne (by omega), hs_u1_ne (by omega)]
    · rw [aw_cp_i (by omega), aw_cp_o (by omega), aw_cp_o (by omega), hs_u1_ne (by omega), hs_u1_ne (by omega)]
  obtain ⟨o, hC, w', rfl, a⟩ := h
  exact ⟨w', hC, a⟩
theorem jfg_106 {w : cm_W} (hG : sv_w sg w) : ∃ w' : cm_W, cm_C 1 66 [.inr (.inr (some 106))] w (none, w') ∧ sv_w sg w' ∧ (∀ k i, ¬ (k = 106 ∧ i ≤ 1) → w'.1 k i = w.1 k i) ∧ (w'.1 106 1).toInt = 0 ∧ (w'.1 106 0).toInt = 0 := by
  have h : ∃ o, cm_C (0 + 1) 66 [.inr (.inr (some 106))] w o ∧ (fun o : cm_O => ∃ w', o = (none, w') ∧ sv_w sg w' ∧ (∀ k i, ¬ (k = 106 ∧ i ≤ 1) → w'.1 k i = w.1 k i) ∧ (w'.1 106 1).toInt = 0 ∧ (w'.1 106 0).toInt = 0) o := by
    refine wk_entry (by rw [xm_85b2a079]; exact Nat.le_of_ble_eq_true rfl) ?_
    rw [show cm_ent 66 [.inr (.inr (some 106))] = [some (.inr (.inr (some 106)))] from by unfold cm_ent; rw [xm_85b2a079]; rfl]
    refine wk_aload_n xd_b61f699b rfl ?_
    refine wk_iconst xd_965dfcd6 ?_
    refine wk_putI xf_1d2068f8 (fun ci => wk_fitI ci) xd_8232437c ?_
    have hG1_ : sv_w sg (cm_u1 w 106 0 (Int32.ofInt 0)) := sv_w_u1 hG (by rw [xg_f40c0c71]; exact sv_in_top _)
    refine wk_aload_n xd_2d3022dc rfl ?_
    refine wk_iconst xd_f384c296 ?_
    refine wk_putI xf_55c0d00e (fun ci => wk_fitI ci) xd_19f47488 ?_
    have hG2_ : sv_w sg (cm_u1 (cm_u1 w 106 0 (Int32.ofInt 0)) 106 1 (Int32.ofInt 0)) := sv_w_u1 hG1_ (by rw [xg_47bbf005]; exact hb_mk (by rw [(show ((Int32.ofInt 0)).toInt = 0 from by decide)]; omega) (by rw [(show ((Int32.ofInt 0)).toInt = 0 from by decide)]; omega))
    exact wk_return xd_b1c8ae39 xr_1fe1e780 ⟨_, rfl, hG2_, fun k i h => (hs_u1_ne (by omega)).trans (hs_u1_ne (by omega)), by rw [hs_u1_self]; decide, by rw [hs_u1_ne (by omega), hs_u1_self]; decide⟩
  obtain ⟨o, hC, w', rfl, a⟩ := h
  exact ⟨w', hC, a⟩
theorem jfg_111 {w : cm_W} (hG : sv_w sg w) : ∃ w' : cm_W, cm_C 1 66 [.inr (.inr (some 111))] w (none, w') ∧ sv_w sg w' ∧ (∀ k i, ¬ (k = 111 ∧ i ≤ 1) → w'.1 k i = w.1 k i) ∧ (w'.1 111 1).toInt = 0 ∧ (w'.1 111 0).toInt = 0 := by
  have h : ∃ o, cm_C (0 + 1) 66 [.inr (.inr (some 111))] w o ∧ (fun o : cm_O => ∃ w', o = (none, w') ∧ sv_w sg w' ∧ (∀ k i, ¬ (k = 111 ∧ i ≤ 1) → w'.1 k i = w.1 k i) ∧ (w'.1 111 1).toInt = 0 ∧ (w'.1 111 0).toInt = 0) o := by
    refine wk_entry (by rw [xm_85b2a079]; exact Nat.le_of_ble_eq_true rfl) ?_
    rw [show cm_ent 66 [.inr (.inr (some 111))] = [some (.inr (.inr (some 111)))] from by unfold cm_ent; rw [xm_85b2a079]; rfl]
    refine wk_aload_n xd_b61f699b rfl ?_
    refine wk_iconst xd_965dfcd6 ?_
    refine wk_putI xf_b42e58f2 (fun ci => wk_fitI ci) xd_8232437c ?_
    have hG1_ : sv_w sg (cm_u1 w 111 0 (Int32.ofInt 0)) := sv_w_u1 hG (by rw [xg_5d023c7b]; exact sv_in_top _)
    refine wk_aload_n xd_2d3022dc rfl ?_
    refine wk_iconst xd_f384c296 ?_
    refine wk_putI xf_fccee004 (fun ci => wk_fitI ci) xd_19f47488 ?_
    have hG2_ : sv_w sg (cm_u1 (cm_u1 w 111 0 (Int32.ofInt 0)) 111 1 (Int32.ofInt 0)) := sv_w_u1 hG1_ (by rw [xg_fc7eb1ec]; exact hb_mk (by rw [(show ((Int32.ofInt 0)).toInt = 0 from by decide)]; omega) (by rw [(show ((Int32.ofInt 0)).toInt = 0 from by decide)]; omega))
    exact wk_return xd_b1c8ae39 xr_1fe1e780 ⟨_, rfl, hG2_, fun k i h => (hs_u1_ne (by omega)).trans (hs_u1_ne (by omega)), by rw [hs_u1_self]; decide, by rw [hs_u1_ne (by omega), hs_u1_self]; decide⟩
  obtain ⟨o, hC, w', rfl, a⟩ := h
  exact ⟨w', hC, a⟩
theorem jfh {w : cm_W} (hG : sv_w sg w) : ∃ w' : cm_W, cm_C 1 53 [.inr (.inr (some 47))] w (none, w') ∧ sv_w sg w' ∧ (∀ k i, ¬ (k = 47 ∧ i = 2) → w'.1 k i = w.1 k i) ∧ (w'.1 47 2).toInt = 0 := by
  have h : ∃ o, cm_C (0 + 1) 53 [.inr (.inr (some 47))] w o ∧ (fun o : cm_O => ∃ w', o = (none, w') ∧ sv_w sg w' ∧ (∀ k i, ¬ (k = 47 ∧ i = 2) → w'.1 k i = w.1 k i) ∧ (w'.1 47 2).toInt = 0) o := by
    refine wk_entry (by rw [xm_cbc65da7]; exact Nat.le_of_ble_eq_true rfl) ?_
    rw [show cm_ent 53 [.inr (.inr (some 47))] = [some (.inr (.inr (some 47)))] from by unfold cm_ent; rw [xm_cbc65da7]; rfl]
    refine wk_aload_n xd_c8027411 rfl ?_
    refine wk_iconst xd_3a3ccbdb ?_
    refine wk_putI xf_3da5dccc (fun ci => wk_fitI ci) xd_633cbed6 ?_
    have hG1_ : sv_w sg (cm_u1 w 47 2 (Int32.ofInt 0)) := sv_w_u1 hG (by rw [xg_2e4ff086]; exact hb_mk (by rw [(show ((Int32.ofInt 0)).toInt = 0 from by decide)]; omega) (by rw [(show ((Int32.ofInt 0)).toInt = 0 from by decide)]; omega))
    exact wk_return xd_375c549e xr_6e8cd521 ⟨_, rfl, hG1_, fun k i h => hs_u1_ne (by omega), by rw [hs_u1_self]; decide⟩
  obtain ⟨o, hC, w', rfl, a⟩ := h
  exact ⟨w', hC, a⟩
def jBe (w1 w : cm_W) (_i : Nat) : Prop := ∀ k j, ¬ (34 ≤ k ∧ k ≤ 36) → w.1 k j = w1.1 k j
def jBl (w1 w : cm_W) (i : Nat) : Prop := (∀ k j, k ≠ 37 → w.1 k j = w1.1 k j) ∧ ∀ j, j < i → w.1 37 j = w1.1 12 j
theorem jbe_a (w1 : cm_W) (Q : cm_O → Prop) (hk : ∀ w z, jBe w1 w (6) → sv_w sg w → cm_X (cm_C 0) 71 66 [some (.inr (.inr (some 33))), some (.inl z)] [] w Q) : ∀ (n i : Nat) (z : Int32) (w : cm_W), n + i = 6 → z.toInt = (i : Int) → jBe w1 w (i) → sv_w sg w → cm_X (cm_C 0) 71 17 [some (.inr (.inr (some 33))), some (.inl z)] [] w Q := by
  intro n
  induction n with
  | zero =>
    intro i z w hi hz hP hG
    refine wk_iload_n xd_2db95106 rfl ?_
    refine wk_bipush xd_4ebb1697 ?_
    refine wk_icmp xd_45e41c5b (t := 66) rfl (fun h20_0 => ?_) (fun h20_0 => ?_)
    · have h20_0 := aw_ge_t (a := ((i : Int) : Int)) (b := (6 : Int)) hz (show (((Int8.ofInt 6).toInt32)).toInt = 6 from by decide) h20_0
      exact hk w z (by have e : i = 6 := (by omega); subst e; exact hP) hG
    · have h20_0 := aw_ge_f (a := ((i : Int) : Int)) (b := (6 : Int)) hz (show (((Int8.ofInt 6).toInt32)).toInt = 6 from by decide) h20_0
      exfalso
      omega
  | succ n ih =>
    intro i z w hi hz hP hG
    refine wk_iload_n xd_2db95106 rfl ?_
    refine wk_bipush xd_4ebb1697 ?_
    refine wk_icmp xd_45e41c5b (t := 66) rfl (fun h20_1 => ?_) (fun h20_1 => ?_)
    · have h20_1 := aw_ge_t (a := ((i : Int) : Int)) (b := (6 : Int)) hz (show (((Int8.ofInt 6).toInt32)).toInt = 6 from by decide) h20_1
      exfalso
      omega
    · have h20_1 := aw_ge_f (a := ((i : Int) : Int)) (b := (6 : Int)) hz (show (((Int8.ofInt 6).toInt32)).toInt = 6 from by decide) h20_1
      refine wk_aload_n xd_1298a360 rfl ?_
      refine wk_getR xf_3d46729d xd_37a7a5e4 ?_
      refine wk_iload_n xd_75a7f82e rfl ?_
      refine wk_aload_n xd_64c4d97b rfl ?_
      refine wk_getR xf_0e86a34e xd_a5cdbec8 ?_
      refine wk_getR xf_8e0e3055 xd_b3b3abc3 ?_
      refine wk_iload_n xd_19144ee0 rfl ?_
      refine aw_iaload (i := i) xf_888688f9 hz (by omega) (by omega) xd_29dcb12c ?_
      refine aw_iastore (i := i) xf_34c2cae4 hz (by omega) (by omega) xd_6a49aab5 ?_
      have hG3_ : sv_w sg (cm_u1 w 34 i (w.1 9 i)) := sv_w_u1 hG (by rw [aw_tv2 xf_1f73dbab]; exact sv_in_top _)
      refine wk_aload_n xd_e5e1bc5c rfl ?_
      refine wk_getR xf_465bf3ef xd_c7f83624 ?_
      refine wk_iload_n xd_5eb5e139 rfl ?_
      refine wk_aload_n xd_a2a5f130 rfl ?_
      refine wk_getR xf_0e86a34e xd_e82e2a3b ?_
      refine wk_getR xf_bf568b14 xd_72e670c0 ?_
      refine wk_iload_n xd_320657f7 rfl ?_
      refine aw_iaload (i := i) xf_151564df hz (by omega) (by omega) xd_3ea51279 ?_
      refine aw_iastore (i := i) xf_e9541361 hz (by omega) (by omega) xd_959b7710 ?_
      have hG4_ : sv_w sg (cm_u1 (cm_u1 w 34 i (w.1 9 i)) 35 i ((cm_u1 w 34 i (w.1 9 i)).1 10 i)) := sv_w_u1 hG3_ (by rw [aw_tv2 xf_d42f080e]; exact sv_in_top _)
      refine wk_aload_n xd_23809417 rfl ?_
      refine wk_getR xf_5ac11565 xd_728b6666 ?_
      refine wk_iload_n xd_44bfcf59 rfl ?_
      refine wk_iconst xd_21f91d9e ?_
      refine aw_iastore (i := i) xf_549e7faf hz (by omega) (by omega) xd_cb77fc85 ?_
      have hG5_ : sv_w sg (cm_u1 (cm_u1 (cm_u1 w 34 i (w.1 9 i)) 35 i ((cm_u1 w 34 i (w.1 9 i)).1 10 i)) 36 i (Int32.ofInt 0)) := sv_w_u1 hG4_ (by rw [aw_tv2 xf_52bb7aa0]; exact sv_in_top _)
      refine aw_iinc (a := ((i : Int) : Int)) (b := (1 : Int)) (e := ((i : Int) + 1 : Int)) xd_d0b13387 (by rw [xm_65c7fe76]; rfl) rfl rfl hz (show ((Int32.ofInt 1)).toInt = 1 from by decide) (by omega) (by omega) (by omega) (fun v6_ p6_ => ?_)
      refine wk_goto xd_82ef1531 (t := 17) rfl ?_
      refine ih (i + 1) _ _ (by omega) (by rw [p6_]; omega) ?_ hG5_
      exact fun k j hk => (((hs_u1_ne (by omega)).trans (hs_u1_ne (by omega))).trans (hs_u1_ne (by omega))).trans (hP k j hk)
theorem jbe_b (w1 : cm_W) (Q : cm_O → Prop) (hk : ∀ w z, jBl w1 w (4) → sv_w sg w → cm_X (cm_C 0) 71 94 [some (.inr (.inr (some 33))), some (.inl z)] [] w Q) : ∀ (n i : Nat) (z : Int32) (w : cm_W), n + i = 4 → z.toInt = (i : Int) → jBl w1 w (i) → sv_w sg w → cm_X (cm_C 0) 71 68 [some (.inr (.inr (some 33))), some (.inl z)] [] w Q := by
  intro n
  induction n with
  | zero =>
    intro i z w hi hz hP hG
    refine wk_iload_n xd_6aa1bdf9 rfl ?_
    refine wk_iconst xd_b5b4e6a3 ?_
    refine wk_icmp xd_dd1417d3 (t := 94) rfl (fun h70_0 => ?_) (fun h70_0 => ?_)
    · have h70_0 := aw_ge_t (a := ((i : Int) : Int)) (b := (4 : Int)) hz (show ((Int32.ofInt 4)).toInt = 4 from by decide) h70_0
      exact hk w z (by have e : i = 4 := (by omega); subst e; exact hP) hG
    · have h70_0 := aw_ge_f (a := ((i : Int) : Int)) (b := (4 : Int)) hz (show ((Int32.ofInt 4)).toInt = 4 from by decide) h70_0
      exfalso
      omega
  | succ n ih =>
    intro i z w hi hz hP hG
    refine wk_iload_n xd_6aa1bdf9 rfl ?_
    refine wk_iconst xd_b5b4e6a3 ?_
    refine wk_icmp xd_dd1417d3 (t := 94) rfl (fun h70_1 => ?_) (fun h70_1 => ?_)
    · have h70_1 := aw_ge_t (a := ((i : Int) : Int)) (b := (4 : Int)) hz (show ((Int32.ofInt 4)).toInt = 4 from by decide) h70_1
      exfalso
      omega
    · have h70_1 := aw_ge_f (a := ((i : Int) : Int)) (b := (4 : Int)) hz (show ((Int32.ofInt 4)).toInt = 4 from by decide) h70_1
      refine wk_aload_n xd_fabb5818 rfl ?_
      refine wk_getR xf_d87f7c5e xd_ec453dd6 ?_
      refine wk_iload_n xd_9d840356 rfl ?_
      refine wk_aload_n xd_8ce72203 rfl ?_
      refine wk_getR xf_0e86a34e xd_68448e81 ?_
      refine wk_getR xf_a4a49117 xd_d13d8686 ?_
      refine wk_iload_n xd_9307db76 rfl ?_
      refine aw_iaload (i := i) xf_376cd6e9 hz (by omega) (by omega) xd_77303ab9 ?_
      refine aw_iastore (i := i) xf_cb2da157 hz (by omega) (by omega) xd_ea7221f5 ?_
      have hG3_ : sv_w sg (cm_u1 w 37 i (w.1 12 i)) := sv_w_u1 hG (by rw [aw_tv2 xf_99e7a905]; exact sv_in_top _)
      refine aw_iinc (a := ((i : Int) : Int)) (b := (1 : Int)) (e := ((i : Int) + 1 : Int)) xd_848124db (by rw [xm_65c7fe76]; rfl) rfl rfl hz (show ((Int32.ofInt 1)).toInt = 1 from by decide) (by omega) (by omega) (by omega) (fun v4_ p4_ => ?_)
      refine wk_goto xd_8a9212a8 (t := 68) rfl ?_
      refine ih (i + 1) _ _ (by omega) (by rw [p4_]; omega) ?_ hG3_
      refine ⟨fun k j hk => (hs_u1_ne (fun z => hk z.1)).trans (hP.1 k j hk), fun j hj => ?_⟩
      by_cases e : j = i
      · rw [e, hs_u1_self]
        exact hP.1 12 i (by decide)
      · rw [hs_u1_ne (by omega)]
        exact hP.2 j (by omega)
theorem jbe_c (w1 : cm_W) (Q : cm_O → Prop) (hk : ∀ w z, jOut 38 w1 w (6) → sv_w sg w → cm_X (cm_C 0) 71 115 [some (.inr (.inr (some 33))), some (.inl z)] [] w Q) : ∀ (n i : Nat) (z : Int32) (w : cm_W), n + i = 6 → z.toInt = (i : Int) → jOut 38 w1 w (i) → sv_w sg w → cm_X (cm_C 0) 71 96 [some (.inr (.inr (some 33))), some (.inl z)] [] w Q := by
  intro n
  induction n with
  | zero =>
    intro i z w hi hz hP hG
    refine wk_iload_n xd_64c7876c rfl ?_
    refine wk_bipush xd_92984df1 ?_
    refine wk_icmp xd_12e736d3 (t := 115) rfl (fun h99_0 => ?_) (fun h99_0 => ?_)
    · have h99_0 := aw_ge_t (a := ((i : Int) : Int)) (b := (6 : Int)) hz (show (((Int8.ofInt 6).toInt32)).toInt = 6 from by decide) h99_0
      exact hk w z (by have e : i = 6 := (by omega); subst e; exact hP) hG
    · have h99_0 := aw_ge_f (a := ((i : Int) : Int)) (b := (6 : Int)) hz (show (((Int8.ofInt 6).toInt32)).toInt = 6 from by decide) h99_0
      exfalso
      omega
  | succ n ih =>
    intro i z w hi hz hP hG
    refine wk_iload_n xd_64c7876c rfl ?_
    refine wk_bipush xd_92984df1 ?_
    refine wk_icmp xd_12e736d3 (t := 115) rfl (fun h99_1 => ?_) (fun h99_1 => ?_)
    · have h99_1 := aw_ge_t (a := ((i : Int) : Int)) (b := (6 : Int)) hz (show (((Int8.ofInt 6).toInt32)).toInt = 6 from by decide) h99_1
      exfalso
      omega
    · have h99_1 := aw_ge_f (a := ((i : Int) : Int)) (b := (6 : Int)) hz (show (((Int8.ofInt 6).toInt32)).toInt = 6 from by decide) h99_1
      refine wk_aload_n xd_c4888d05 rfl ?_
      refine wk_getR xf_72046d7e xd_46abaa74 ?_
      refine wk_iload_n xd_a3b7d64b rfl ?_
      refine wk_iconst xd_72c1af3c ?_
      refine aw_iastore (i := i) xf_ae78731f hz (by omega) (by omega) xd_2ffad0ff ?_
      have hG3_ : sv_w sg (cm_u1 w 38 i (Int32.ofInt (-1))) := sv_w_u1 hG (by rw [aw_tv2 xf_68b11bd0]; exact sv_in_top _)
      refine aw_iinc (a := ((i : Int) : Int)) (b := (1 : Int)) (e := ((i : Int) + 1 : Int)) xd_af2339b4 (by rw [xm_65c7fe76]; rfl) rfl rfl hz (show ((Int32.ofInt 1)).toInt = 1 from by decide) (by omega) (by omega) (by omega) (fun v4_ p4_ => ?_)
      refine wk_goto xd_b3ef659a (t := 96) rfl ?_
      refine ih (i + 1) _ _ (by omega) (by rw [p4_]; omega) ?_ hG3_
      exact fun k j hk => (hs_u1_ne (fun z => hk z.1)).trans (hP k j hk)
theorem jbe_d (w1 : cm_W) (Q : cm_O → Prop) (hk : ∀ w z, jOut 39 w1 w (10) → sv_w sg w → cm_X (cm_C 0) 71 136 [some (.inr (.inr (some 33))), some (.inl z)] [] w Q) : ∀ (n i : Nat) (z : Int32) (w : cm_W), n + i = 10 → z.toInt = (i : Int) → jOut 39 w1 w (i) → sv_w sg w → cm_X (cm_C 0) 71 117 [some (.inr (.inr (some 33))), some (.inl z)] [] w Q := by
  intro n
  induction n with
  | zero =>
    intro i z w hi hz hP hG
    refine wk_iload_n xd_b9e159b8 rfl ?_
    refine wk_bipush xd_2e9a8ba9 ?_
    refine wk_icmp xd_08e82364 (t := 136) rfl (fun h120_0 => ?_) (fun h120_0 => ?_)
    · have h120_0 := aw_ge_t (a := ((i : Int) : Int)) (b := (10 : Int)) hz (show (((Int8.ofInt 10).toInt32)).toInt = 10 from by decide) h120_0
      exact hk w z (by have e : i = 10 := (by omega); subst e; exact hP) hG
    · have h120_0 := aw_ge_f (a := ((i : Int) : Int)) (b := (10 : Int)) hz (show (((Int8.ofInt 10).toInt32)).toInt = 10 from by decide) h120_0
      exfalso
      omega
  | succ n ih =>
    intro i z w hi hz hP hG
    refine wk_iload_n xd_b9e159b8 rfl ?_
    refine wk_bipush xd_2e9a8ba9 ?_
    refine wk_icmp xd_08e82364 (t := 136) rfl (fun h120_1 => ?_) (fun h120_1 => ?_)
    · have h120_1 := aw_ge_t (a := ((i : Int) : Int)) (b := (10 : Int)) hz (show (((Int8.ofInt 10).toInt32)).toInt = 10 from by decide) h120_1
      exfalso
      omega
    · have h120_1 := aw_ge_f (a := ((i : Int) : Int)) (b := (10 : Int)) hz (show (((Int8.ofInt 10).toInt32)).toInt = 10 from by decide) h120_1
      refine wk_aload_n xd_86c0abde rfl ?_
      refine wk_getR xf_114cd2f8 xd_da116763 ?_
      refine wk_iload_n xd_e1fff090 rfl ?_
      refine wk_iconst xd_85d08b4c ?_
      refine aw_iastore (i := i) xf_f99d6c00 hz (by omega) (by omega) xd_9e709ae1 ?_
      have hG3_ : sv_w sg (cm_u1 w 39 i (Int32.ofInt (-1))) := sv_w_u1 hG (by rw [aw_tv2 xf_a3edc875]; exact sv_in_top _)
      refine aw_iinc (a := ((i : Int) : Int)) (b := (1 : Int)) (e := ((i : Int) + 1 : Int)) xd_77ad4249 (by rw [xm_65c7fe76]; rfl) rfl rfl hz (show ((Int32.ofInt 1)).toInt = 1 from by decide) (by omega) (by omega) (by omega) (fun v4_ p4_ => ?_)
      refine wk_goto xd_a2ac26e0 (t := 117) rfl ?_
      refine ih (i + 1) _ _ (by omega) (by rw [p4_]; omega) ?_ hG3_
      exact fun k j hk => (hs_u1_ne (fun z => hk z.1)).trans (hP k j hk)
theorem jbe_ok {w : cm_W} (hG : sv_w sg w) : ∃ w' : cm_W, cm_C 1 71 [.inr (.inr (some 33))] w (none, w') ∧ sv_w sg w' ∧ (∀ k i, ¬ (33 ≤ k ∧ k ≤ 39) → w'.1 k i = w.1 k i) ∧ (∀ f, f < 4 → w'.1 37 f = w.1 12 f) := by
  have h : ∃ o, cm_C (0 + 1) 71 [.inr (.inr (some 33))] w o ∧ (fun o : cm_O => ∃ w', o = (none, w') ∧ sv_w sg w' ∧ (∀ k i, ¬ (33 ≤ k ∧ k ≤ 39) → w'.1 k i = w.1 k i) ∧ (∀ f, f < 4 → w'.1 37 f = w.1 12 f)) o := by
    refine wk_entry (by rw [xm_65c7fe76]; exact Nat.le_of_ble_eq_true rfl) ?_
    rw [show cm_ent 71 [.inr (.inr (some 33))] = [some (.inr (.inr (some 33))), none] from by unfold cm_ent; rw [xm_65c7fe76]; rfl]
    refine wk_aload_n xd_005009fc rfl ?_
    refine wk_iconst xd_bf10a6e9 ?_
    refine wk_putI xf_1bd2bb1d (fun ci => wk_fitI ci) xd_2e60baae ?_
    have hG1_ : sv_w sg (cm_u1 w 33 1 (Int32.ofInt 0)) := sv_w_u1 hG (by rw [aw_tv2 xf_0276eb13]; exact sv_in_top _)
    refine wk_aload_n xd_9b7f42bb rfl ?_
    refine wk_iconst xd_dac998a9 ?_
    refine wk_putI xf_b510a9fa (fun ci => wk_fitI ci) xd_b5a68d5a ?_
    have hG2_ : sv_w sg (cm_u1 (cm_u1 w 33 1 (Int32.ofInt 0)) 33 2 (Int32.ofInt 0)) := sv_w_u1 hG1_ (by rw [aw_tv2 xf_0276eb13]; exact sv_in_top _)
    refine wk_aload_n xd_3c633375 rfl ?_
    refine wk_iconst xd_8fcefecd ?_
    refine wk_putI xf_d1592dde (fun ci => wk_fitI ci) xd_d7c8c3e5 ?_
    have hG3_ : sv_w sg (cm_u1 (cm_u1 (cm_u1 w 33 1 (Int32.ofInt 0)) 33 2 (Int32.ofInt 0)) 33 3 (Int32.ofInt 0)) := sv_w_u1 hG2_ (by rw [aw_tv2 xf_0276eb13]; exact sv_in_top _)
    refine wk_iconst xd_d36f6dcd ?_
    refine wk_istore_n xd_0d7f9536 (by rw [xm_65c7fe76]; rfl) rfl ?_
    refine jbe_a (cm_u1 (cm_u1 (cm_u1 w 33 1 (Int32.ofInt 0)) 33 2 (Int32.ofInt 0)) 33 3 (Int32.ofInt 0)) _ (fun w2 z2 hP2 hG2 => ?_) 6 0 _ (cm_u1 (cm_u1 (cm_u1 w 33 1 (Int32.ofInt 0)) 33 2 (Int32.ofInt 0)) 33 3 (Int32.ofInt 0)) (by omega) (by decide) (fun _ _ _ => rfl) hG3_
    refine wk_iconst xd_9cae5823 ?_
    refine wk_istore_n xd_420a0cb9 (by rw [xm_65c7fe76]; rfl) rfl ?_
    refine jbe_b w2 _ (fun w3 z3 hP3 hG3 => ?_) 4 0 _ w2 (by omega) (by decide) ⟨fun _ _ _ => rfl, fun j hj => absurd hj (Nat.not_lt_zero j)⟩ hG2
    refine wk_iconst xd_c4fe4a2b ?_
    refine wk_istore_n xd_796aafa9 (by rw [xm_65c7fe76]; rfl) rfl ?_
    refine jbe_c w3 _ (fun w4 z4 hP4 hG4 => ?_) 6 0 _ w3 (by omega) (by decide) (fun _ _ _ => rfl) hG3
    refine wk_iconst xd_ef5c5744 ?_
    refine wk_istore_n xd_213253b5 (by rw [xm_65c7fe76]; rfl) rfl ?_
    refine jbe_d w4 _ (fun w5 z5 hP5 hG5 => ?_) 10 0 _ w4 (by omega) (by decide) (fun _ _ _ => rfl) hG4
    refine wk_return xd_70366064 xr_025ffada ⟨_, rfl, hG5, fun k i hk => ?_, fun f hf => ?_⟩
    · rw [hP5 k i (by omega), hP4 k i (by omega), hP3.1 k i (by omega), hP2 k i (by omega), hs_u1_ne (by omega), hs_u1_ne (by omega), hs_u1_ne (by omega)]
    · rw [hP5 37 f (by omega), hP4 37 f (by omega), hP3.2 f hf, hP2 12 f (by omega), hs_u1_ne (by omega), hs_u1_ne (by omega), hs_u1_ne (by omega)]
  obtain ⟨o, hC, w', rfl, a⟩ := h
  exact ⟨w', hC, a⟩
theorem jim_ok {w : cm_W} {v : Int32} : ∃ x, cm_C 1 21 [.inl v] w (some (.inl x), w) ∧ ((0 ≤ v.toInt ∧ v.toInt ≤ 1 ∧ x = Int32.ofInt 1) ∨ (¬ (0 ≤ v.toInt ∧ v.toInt ≤ 1) ∧ x = Int32.ofInt 0)) := by
  have h : ∃ o, cm_C (0 + 1) 21 [.inl v] w o ∧ (fun o : cm_O => ∃ x, o = (some (.inl x), w) ∧ ((0 ≤ v.toInt ∧ v.toInt ≤ 1 ∧ x = Int32.ofInt 1) ∨ (¬ (0 ≤ v.toInt ∧ v.toInt ≤ 1) ∧ x = Int32.ofInt 0))) o := by
    refine wk_entry (by rw [xm_ac033e7f]; exact Nat.le_of_ble_eq_true rfl) ?_
    rw [show cm_ent 21 [.inl v] = [some (.inl v)] from by unfold cm_ent; rw [xm_ac033e7f]; rfl]
    refine wk_iload_n xd_559eaa95 rfl ?_
    refine wk_if xd_b394d68a (t := 13) rfl (fun h1_0 => ?_) (fun h1_0 => ?_)
    · have h1_0 := aw_lt_t (a := ((v).toInt : Int)) (b := (0 : Int)) rfl hb_z h1_0
      refine wk_iconst xd_ae534749 ?_
      exact wk_ireturn xd_55b3221e xr_66098b4d wk_z0 ⟨_, rfl, .inr ⟨by omega, rfl⟩⟩
    · have h1_0 := aw_lt_f (a := ((v).toInt : Int)) (b := (0 : Int)) rfl hb_z h1_0
      refine wk_iload_n xd_55c20b06 rfl ?_
      refine wk_iconst xd_54f856c0 ?_
      refine wk_icmp xd_30ef43b0 (t := 13) rfl (fun h6_1 => ?_) (fun h6_1 => ?_)
      · have h6_1 := aw_ge_t (a := ((v).toInt : Int)) (b := (2 : Int)) rfl (show ((Int32.ofInt 2)).toInt = 2 from by decide) h6_1
        refine wk_iconst xd_ae534749 ?_
        exact wk_ireturn xd_55b3221e xr_66098b4d wk_z0 ⟨_, rfl, .inr ⟨by omega, rfl⟩⟩
      · have h6_1 := aw_ge_f (a := ((v).toInt : Int)) (b := (2 : Int)) rfl (show ((Int32.ofInt 2)).toInt = 2 from by decide) h6_1
        refine wk_iconst xd_f6ba9910 ?_
        refine wk_goto xd_a079424e (t := 14) rfl ?_
        exact wk_ireturn xd_55b3221e xr_66098b4d wk_z1 ⟨_, rfl, .inl ⟨by omega, by omega, rfl⟩⟩
  obtain ⟨o, hC, x, rfl, a⟩ := h
  exact ⟨x, hC, a⟩
/-- image of the class ends -/
theorem jc_image {w : cm_W} {k : Int32} (hc : jCl w) (hR1 : jR 106 w) (hR2 : jR 152 w) (hR3 : jR 179 w) (hG : sv_w sg w) : ∃ x w', cm_C 2 17 [.inr (.inr (some 0)), .inl k] w (some (.inl x), w') ∧ sv_w sg w' ∧ jCl w' ∧ jR 106 w' ∧ jR 152 w' ∧ jR 179 w' ∧ (∀ c i, ¬ (130 ≤ c ∧ c ≤ 183) → w'.1 c i = w.1 c i) ∧ ((k.toInt = 0 ∧ x = Int32.ofInt 1 ∧ (w'.1 130 0).toInt = 1 ∧ w'.1 157 0 = w.1 157 0) ∨ (k.toInt = 1 ∧ x = Int32.ofInt 1 ∧ (w'.1 157 0).toInt = 1 ∧ w'.1 130 0 = w.1 130 0) ∨ (¬ (0 ≤ k.toInt ∧ k.toInt ≤ 1) ∧ x = Int32.ofInt 0 ∧ w'.1 130 0 = w.1 130 0 ∧ w'.1 157 0 = w.1 157 0)) := by
  have h : ∃ o, cm_C (1 + 1) 17 [.inr (.inr (some 0)), .inl k] w o ∧ (fun o : cm_O => ∃ x w', o = (some (.inl x), w') ∧ sv_w sg w' ∧ jCl w' ∧ jR 106 w' ∧ jR 152 w' ∧ jR 179 w' ∧ (∀ c i, ¬ (130 ≤ c ∧ c ≤ 183) → w'.1 c i = w.1 c i) ∧ ((k.toInt = 0 ∧ x = Int32.ofInt 1 ∧ (w'.1 130 0).toInt = 1 ∧ w'.1 157 0 = w.1 157 0) ∨ (k.toInt = 1 ∧ x = Int32.ofInt 1 ∧ (w'.1 157 0).toInt = 1 ∧ w'.1 130 0 = w.1 130 0) ∨ (¬ (0 ≤ k.toInt ∧ k.toInt ≤ 1) ∧ x = Int32.ofInt 0 ∧ w'.1 130 0 = w.1 130 0 ∧ w'.1 157 0 = w.1 157 0))) o := by
    refine wk_entry (by rw [xm_4bd9d85d]; exact Nat.le_of_ble_eq_true rfl) ?_
    rw [show cm_ent 17 [.inr (.inr (some 0)), .inl k] = [some (.inr (.inr (some 0))), some (.inl k), none] from by unfold cm_ent; rw [xm_4bd9d85d]; rfl]
    refine wk_iload_n xd_e4b47357 rfl ?_
    obtain ⟨xe, hCe, hxe⟩ := jim_ok (w := w) (v := k)
    have hxe : (0 ≤ k.toInt ∧ k.toInt ≤ 1 ∧ xe.toInt = 1) ∨ (¬ (0 ≤ k.toInt ∧ k.toInt ≤ 1) ∧ xe.toInt = 0) := by
      rcases hxe with ⟨g1, g2, g3⟩ | ⟨g1, g3⟩
      · exact .inl ⟨by omega, by omega, by rw [g3]; decide⟩
      · exact .inr ⟨by omega, by rw [g3]; decide⟩
    refine wk_call (kd := 1) (i := 386) xd_4c6a18eb rfl (wk_cal (as := [.inl k]) (t := []) xl_9a673b16 rfl xn_cd1e0db1 xc_86f546fc rfl rfl rfl rfl) (cm_C_mono (by decide) hCe) ?_
    refine wk_if xd_b6d246d8 (t := 9) rfl (fun h4_0 => ?_) (fun h4_0 => ?_)
    · have h4_0 := aw_ne_t (a := ((xe).toInt : Int)) (b := (0 : Int)) rfl hb_z h4_0
      have hk01 : k.toInt = 0 ∨ k.toInt = 1 := by omega
      rcases hk01 with hk0 | hk0
      · skip
        refine wk_aload_n xd_181d2078 rfl ?_
        refine wk_getR xf_2c96914e xd_ec3408f3 ?_
        refine wk_iload_n xd_9400a31c rfl ?_
        refine aw_aaload (i := 0) xf_631baa43 hk0 rfl xd_cfe7b8df rfl ?_
        refine aw_astore_n xd_b545862f (by rw [xm_4bd9d85d]; rfl) rfl ?_
        refine wk_aload_n xd_128c41e6 rfl ?_
        refine wk_getR xf_422cbc6f xd_d313d710 ?_
        refine wk_aload_n xd_dd98c9d4 rfl ?_
        refine wk_getR xf_7266101c xd_9259eb03 ?_
        obtain ⟨w1, hC1, hG1, hF1, hP1⟩ := jcv_131_4 (w := w) hG
        refine wk_call (kd := 0) (i := 131) xd_d7e19759 rfl (wk_cal (as := [.inr (.inr (some 131)), .inr (.inr (some 4))]) (t := []) xl_8f86ae33 rfl xn_000cd9ad xc_6360c095 rfl rfl xv_b3bc9392 rfl) (cm_C_mono (by decide) hC1) ?_
        refine wk_aload_n xd_d1e1021a rfl ?_
        refine wk_getR xf_fb7d68cc xd_2b211d9d ?_
        refine wk_aload_n xd_c7ce4627 rfl ?_
        refine wk_getR xf_6b63b71b xd_d150620a ?_
        obtain ⟨w2, hC2, hG2, hF2, hP2⟩ := jcp_145_33 (w := w1) hG1
        refine wk_call (kd := 0) (i := 333) xd_c583386b rfl (wk_cal (as := [.inr (.inr (some 145)), .inr (.inr (some 33))]) (t := []) xl_30671ae0 rfl xn_437ab768 xc_33cf4b98 rfl rfl xv_f7ccc335 rfl) (cm_C_mono (by decide) hC2) ?_
        refine wk_aload_n xd_26c4bcb5 rfl ?_
        refine wk_getR xf_75765c24 xd_9fd089fb ?_
        refine wk_aload_n xd_8033486d rfl ?_
        refine wk_getR xf_0852317a xd_6380bff8 ?_
        obtain ⟨w3, hC3, hG3, hF3, hP3⟩ := jcs_152_106 (w := w2) (jR_eq (by rw [hF2 106 1 (by omega), hF1 106 1 (by omega)]) (fun i _ => by rw [hF2 _ i (by omega), hF1 _ i (by omega)]) (fun i _ => by rw [hF2 _ i (by omega), hF1 _ i (by omega)]) hR1) hG2
        refine wk_call (kd := 0) (i := 377) xd_002ff75b rfl (wk_cal (as := [.inr (.inr (some 152)), .inr (.inr (some 106))]) (t := []) xl_a009f5f2 rfl xn_3a06b8dd xc_b41990b9 rfl rfl xv_e10d3936 rfl) (cm_C_mono (by decide) hC3) ?_
        refine wk_aload_n xd_8caf6116 rfl ?_
        refine wk_iconst xd_265d9258 ?_
        refine wk_putI xf_3656809d (fun _ => aw_fb (.inr (by decide))) xd_6ebcdaf4 ?_
        have hG102_ : sv_w sg (cm_u1 w3 130 0 (Int32.ofInt 1)) := sv_w_u1 hG3 (by rw [xg_cc65b67e]; exact hb_mk (by rw [(show ((Int32.ofInt 1)).toInt = 1 from by decide)]; omega) (by rw [(show ((Int32.ofInt 1)).toInt = 1 from by decide)]; omega))
        refine wk_iconst xd_7afc0158 ?_
        obtain ⟨h1, h2, h3, h4⟩ := hc
        have hme : jL 149 131 (cm_u1 w3 130 0 (Int32.ofInt 1)) := fun f hf hv => by
          rw [hs_u1_ne (by omega), hF3 149 f (by omega), hP2 f hf, hF1 37 f (by omega)]
          rw [hs_u1_ne (by omega), hF3 131 4 (by omega), hF2 131 4 (by omega), hP1.1] at hv
          exact h1 f hf hv
        have hring : jRg (cm_u1 w3 130 0 (Int32.ofInt 1)) := fun j hj => by
          rw [hs_u1_ne (by omega), hF3 47 2 (by omega), hF2 47 2 (by omega), hF1 47 2 (by omega)] at hj
          rw [hs_u1_ne (by omega), hF3 47 1 (by omega), hF2 47 1 (by omega), hF1 47 1 (by omega)]
          exact jL_eq (w := w) (by rw [hs_u1_ne (by omega), hF3 4 4 (by omega), hF2 4 4 (by omega), hF1 4 4 (by omega)]) (fun f _ => (by rw [hs_u1_ne (by omega), hF3 _ f (by omega), hF2 _ f (by omega), hF1 _ f (by omega)])) (h2 j hj)
        exact wk_ireturn xd_0f44b3de xr_2bbbe127 wk_z1 ⟨_, _, rfl, hG102_, ⟨jL_eq (w := w) (by rw [hs_u1_ne (by omega), hF3 4 4 (by omega), hF2 4 4 (by omega), hF1 4 4 (by omega)]) (fun f _ => (by rw [hs_u1_ne (by omega), hF3 37 f (by omega), hF2 37 f (by omega), hF1 37 f (by omega)])) h1, hring, hme, jL_eq (w := w) (by rw [hs_u1_ne (by omega), hF3 158 4 (by omega), hF2 158 4 (by omega), hF1 158 4 (by omega)]) (fun f _ => (by rw [hs_u1_ne (by omega), hF3 176 f (by omega), hF2 176 f (by omega), hF1 176 f (by omega)])) h4⟩, jR_eq (w := w) (s := 106) (by rw [hs_u1_ne (by omega), hF3 106 1 (by omega), hF2 106 1 (by omega), hF1 106 1 (by omega)]) (fun i _ => (by rw [hs_u1_ne (by omega), hF3 _ i (by omega), hF2 _ i (by omega), hF1 _ i (by omega)])) (fun i _ => (by rw [hs_u1_ne (by omega), hF3 _ i (by omega), hF2 _ i (by omega), hF1 _ i (by omega)])) hR1, jR_eq (w := w3) (s := 152) (hs_u1_ne (by omega)) (fun i _ => hs_u1_ne (by omega)) (fun i _ => hs_u1_ne (by omega)) hP3, jR_eq (w := w) (s := 179) (by rw [hs_u1_ne (by omega), hF3 179 1 (by omega), hF2 179 1 (by omega), hF1 179 1 (by omega)]) (fun i _ => (by rw [hs_u1_ne (by omega), hF3 _ i (by omega), hF2 _ i (by omega), hF1 _ i (by omega)])) (fun i _ => (by rw [hs_u1_ne (by omega), hF3 _ i (by omega), hF2 _ i (by omega), hF1 _ i (by omega)])) hR3, fun c i hci => (by rw [hs_u1_ne (by omega), hF3 c i (by omega), hF2 c i (by omega), hF1 c i (by omega)]), .inl ⟨hk0, rfl, by rw [hs_u1_self]; decide, (by rw [hs_u1_ne (by omega), hF3 157 0 (by omega), hF2 157 0 (by omega), hF1 157 0 (by omega)])⟩⟩
      · skip
        refine wk_aload_n xd_181d2078 rfl ?_
        refine wk_getR xf_2c96914e xd_ec3408f3 ?_
        refine wk_iload_n xd_9400a31c rfl ?_
        refine aw_aaload (i := 1) xf_816196bf hk0 rfl xd_cfe7b8df rfl ?_
        refine aw_astore_n xd_b545862f (by rw [xm_4bd9d85d]; rfl) rfl ?_
        refine wk_aload_n xd_128c41e6 rfl ?_
        refine wk_getR xf_2a025e64 xd_d313d710 ?_
        refine wk_aload_n xd_dd98c9d4 rfl ?_
        refine wk_getR xf_7266101c xd_9259eb03 ?_
        obtain ⟨w1, hC1, hG1, hF1, hP1⟩ := jcv_158_4 (w := w) hG
        refine wk_call (kd := 0) (i := 131) xd_d7e19759 rfl (wk_cal (as := [.inr (.inr (some 158)), .inr (.inr (some 4))]) (t := []) xl_8f86ae33 rfl xn_000cd9ad xc_6360c095 rfl rfl xv_27cc08f7 rfl) (cm_C_mono (by decide) hC1) ?_
        refine wk_aload_n xd_d1e1021a rfl ?_
        refine wk_getR xf_ed16e81a xd_2b211d9d ?_
        refine wk_aload_n xd_c7ce4627 rfl ?_
        refine wk_getR xf_6b63b71b xd_d150620a ?_
        obtain ⟨w2, hC2, hG2, hF2, hP2⟩ := jcp_172_33 (w := w1) hG1
        refine wk_call (kd := 0) (i := 333) xd_c583386b rfl (wk_cal (as := [.inr (.inr (some 172)), .inr (.inr (some 33))]) (t := []) xl_30671ae0 rfl xn_437ab768 xc_33cf4b98 rfl rfl xv_a9690446 rfl) (cm_C_mono (by decide) hC2) ?_
        refine wk_aload_n xd_26c4bcb5 rfl ?_
        refine wk_getR xf_64a8847f xd_9fd089fb ?_
        refine wk_aload_n xd_8033486d rfl ?_
        refine wk_getR xf_0852317a xd_6380bff8 ?_
        obtain ⟨w3, hC3, hG3, hF3, hP3⟩ := jcs_179_106 (w := w2) (jR_eq (by rw [hF2 106 1 (by omega), hF1 106 1 (by omega)]) (fun i _ => by rw [hF2 _ i (by omega), hF1 _ i (by omega)]) (fun i _ => by rw [hF2 _ i (by omega), hF1 _ i (by omega)]) hR1) hG2
        refine wk_call (kd := 0) (i := 377) xd_002ff75b rfl (wk_cal (as := [.inr (.inr (some 179)), .inr (.inr (some 106))]) (t := []) xl_a009f5f2 rfl xn_3a06b8dd xc_b41990b9 rfl rfl xv_2e1720ed rfl) (cm_C_mono (by decide) hC3) ?_
        refine wk_aload_n xd_8caf6116 rfl ?_
        refine wk_iconst xd_265d9258 ?_
        refine wk_putI xf_e22bb6cf (fun _ => aw_fb (.inr (by decide))) xd_6ebcdaf4 ?_
        have hG202_ : sv_w sg (cm_u1 w3 157 0 (Int32.ofInt 1)) := sv_w_u1 hG3 (by rw [xg_5f176da0]; exact hb_mk (by rw [(show ((Int32.ofInt 1)).toInt = 1 from by decide)]; omega) (by rw [(show ((Int32.ofInt 1)).toInt = 1 from by decide)]; omega))
        refine wk_iconst xd_7afc0158 ?_
        obtain ⟨h1, h2, h3, h4⟩ := hc
        have hme : jL 176 158 (cm_u1 w3 157 0 (Int32.ofInt 1)) := fun f hf hv => by
          rw [hs_u1_ne (by omega), hF3 176 f (by omega), hP2 f hf, hF1 37 f (by omega)]
          rw [hs_u1_ne (by omega), hF3 158 4 (by omega), hF2 158 4 (by omega), hP1.1] at hv
          exact h1 f hf hv
        have hring : jRg (cm_u1 w3 157 0 (Int32.ofInt 1)) := fun j hj => by
          rw [hs_u1_ne (by omega), hF3 47 2 (by omega), hF2 47 2 (by omega), hF1 47 2 (by omega)] at hj
          rw [hs_u1_ne (by omega), hF3 47 1 (by omega), hF2 47 1 (by omega), hF1 47 1 (by omega)]
          exact jL_eq (w := w) (by rw [hs_u1_ne (by omega), hF3 4 4 (by omega), hF2 4 4 (by omega), hF1 4 4 (by omega)]) (fun f _ => (by rw [hs_u1_ne (by omega), hF3 _ f (by omega), hF2 _ f (by omega), hF1 _ f (by omega)])) (h2 j hj)
        exact wk_ireturn xd_0f44b3de xr_2bbbe127 wk_z1 ⟨_, _, rfl, hG202_, ⟨jL_eq (w := w) (by rw [hs_u1_ne (by omega), hF3 4 4 (by omega), hF2 4 4 (by omega), hF1 4 4 (by omega)]) (fun f _ => (by rw [hs_u1_ne (by omega), hF3 37 f (by omega), hF2 37 f (by omega), hF1 37 f (by omega)])) h1, hring, jL_eq (w := w) (by rw [hs_u1_ne (by omega), hF3 131 4 (by omega), hF2 131 4 (by omega), hF1 131 4 (by omega)]) (fun f _ => (by rw [hs_u1_ne (by omega), hF3 149 f (by omega), hF2 149 f (by omega), hF1 149 f (by omega)])) h3, hme⟩, jR_eq (w := w) (s := 106) (by rw [hs_u1_ne (by omega), hF3 106 1 (by omega), hF2 106 1 (by omega), hF1 106 1 (by omega)]) (fun i _ => (by rw [hs_u1_ne (by omega), hF3 _ i (by omega), hF2 _ i (by omega), hF1 _ i (by omega)])) (fun i _ => (by rw [hs_u1_ne (by omega), hF3 _ i (by omega), hF2 _ i (by omega), hF1 _ i (by omega)])) hR1, jR_eq (w := w) (s := 152) (by rw [hs_u1_ne (by omega), hF3 152 1 (by omega), hF2 152 1 (by omega), hF1 152 1 (by omega)]) (fun i _ => (by rw [hs_u1_ne (by omega), hF3 _ i (by omega), hF2 _ i (by omega), hF1 _ i (by omega)])) (fun i _ => (by rw [hs_u1_ne (by omega), hF3 _ i (by omega), hF2 _ i (by omega), hF1 _ i (by omega)])) hR2, jR_eq (w := w3) (s := 179) (hs_u1_ne (by omega)) (fun i _ => hs_u1_ne (by omega)) (fun i _ => hs_u1_ne (by omega)) hP3, fun c i hci => (by rw [hs_u1_ne (by omega), hF3 c i (by omega), hF2 c i (by omega), hF1 c i (by omega)]), .inr (.inl ⟨hk0, rfl, by rw [hs_u1_self]; decide, (by rw [hs_u1_ne (by omega), hF3 130 0 (by omega), hF2 130 0 (by omega), hF1 130 0 (by omega)])⟩)⟩
    · have h4_0 := aw_ne_f (a := ((xe).toInt : Int)) (b := (0 : Int)) rfl hb_z h4_0
      refine wk_iconst xd_99e44d7e ?_
      exact wk_ireturn xd_1f70ec83 xr_2bbbe127 wk_z0 ⟨_, _, rfl, hG, hc, hR1, hR2, hR3, fun _ _ _ => rfl, .inr (.inr ⟨by omega, rfl, rfl, rfl⟩)⟩
  obtain ⟨o, hC, x, w', rfl, a⟩ := h
  exact ⟨x, w', hC, a⟩
/-- restore of the class ends -/
theorem jc_restore {w : cm_W} {k : Int32} (hc : jCl w) (hR1 : jR 106 w) (hR2 : jR 152 w) (hR3 : jR 179 w) (hG : sv_w sg w) : ∃ x w', cm_C 2 37 [.inr (.inr (some 0)), .inl k] w (some (.inl x), w') ∧ sv_w sg w' ∧ jCl w' ∧ jR 106 w' ∧ jR 152 w' ∧ jR 179 w' ∧ (∀ c i, ¬ (4 ≤ c ∧ c ≤ 17) → ¬ (33 ≤ c ∧ c ≤ 39) → c ≠ 47 → ¬ (106 ≤ c ∧ c ≤ 110) → w'.1 c i = w.1 c i) ∧ ((k.toInt = 0 ∧ (w.1 130 0).toInt ≠ 0 ∧ x = Int32.ofInt 1) ∨ (k.toInt = 1 ∧ (w.1 157 0).toInt ≠ 0 ∧ x = Int32.ofInt 1) ∨ (¬ (k.toInt = 0 ∧ (w.1 130 0).toInt ≠ 0) ∧ ¬ (k.toInt = 1 ∧ (w.1 157 0).toInt ≠ 0) ∧ x = Int32.ofInt 0)) := by
  have h : ∃ o, cm_C (1 + 1) 37 [.inr (.inr (some 0)), .inl k] w o ∧ (fun o : cm_O => ∃ x w', o = (some (.inl x), w') ∧ sv_w sg w' ∧ jCl w' ∧ jR 106 w' ∧ jR 152 w' ∧ jR 179 w' ∧ (∀ c i, ¬ (4 ≤ c ∧ c ≤ 17) → ¬ (33 ≤ c ∧ c ≤ 39) → c ≠ 47 → ¬ (106 ≤ c ∧ c ≤ 110) → w'.1 c i = w.1 c i) ∧ ((k.toInt = 0 ∧ (w.1 130 0).toInt ≠ 0 ∧ x = Int32.ofInt 1) ∨ (k.toInt = 1 ∧ (w.1 157 0).toInt ≠ 0 ∧ x = Int32.ofInt 1) ∨ (¬ (k.toInt = 0 ∧ (w.1 130 0).toInt ≠ 0) ∧ ¬ (k.toInt = 1 ∧ (w.1 157 0).toInt ≠ 0) ∧ x = Int32.ofInt 0))) o := by
    refine wk_entry (by rw [xm_06117956]; exact Nat.le_of_ble_eq_true rfl) ?_
    rw [show cm_ent 37 [.inr (.inr (some 0)), .inl k] = [some (.inr (.inr (some 0))), some (.inl k), none] from by unfold cm_ent; rw [xm_06117956]; rfl]
    refine wk_iload_n xd_39ac45d5 rfl ?_
    obtain ⟨xe, hCe, hxe⟩ := jim_ok (w := w) (v := k)
    have hxe : (0 ≤ k.toInt ∧ k.toInt ≤ 1 ∧ xe.toInt = 1) ∨ (¬ (0 ≤ k.toInt ∧ k.toInt ≤ 1) ∧ xe.toInt = 0) := by
      rcases hxe with ⟨g1, g2, g3⟩ | ⟨g1, g3⟩
      · exact .inl ⟨by omega, by omega, by rw [g3]; decide⟩
      · exact .inr ⟨by omega, by rw [g3]; decide⟩
    refine wk_call (kd := 1) (i := 386) xd_056eba87 rfl (wk_cal (as := [.inl k]) (t := []) xl_d363997a rfl xn_cd1e0db1 xc_86f546fc rfl rfl rfl rfl) (cm_C_mono (by decide) hCe) ?_
    refine wk_if xd_6d9f6040 (t := 19) rfl (fun h4_0 => ?_) (fun h4_0 => ?_)
    · have h4_0 := aw_eq_t (a := ((xe).toInt : Int)) (b := (0 : Int)) rfl hb_z h4_0
      refine wk_iconst xd_68126e39 ?_
      exact wk_ireturn xd_f2f441d4 xr_2e6f8aa4 wk_z0 ⟨_, _, rfl, hG, hc, hR1, hR2, hR3, fun _ _ _ _ _ _ => rfl, .inr (.inr ⟨by omega, by omega, rfl⟩)⟩
    · have h4_0 := aw_eq_f (a := ((xe).toInt : Int)) (b := (0 : Int)) rfl hb_z h4_0
      have hk01 : k.toInt = 0 ∨ k.toInt = 1 := by omega
      rcases hk01 with hk0 | hk0
      · skip
        refine wk_aload_n xd_287627a6 rfl ?_
        refine wk_getR xf_f18ea7cc xd_a683abf1 ?_
        refine wk_iload_n xd_7afd8acf rfl ?_
        refine aw_aaload (i := 0) xf_631baa43 hk0 rfl xd_dba20357 rfl ?_
        refine wk_getI xf_504bc934 xd_58c472d8 ?_
        refine wk_if xd_7dfbe136 (t := 21) rfl (fun h16_101 => ?_) (fun h16_101 => ?_)
        · have h16_101 := aw_ne_t (a := ((w.1 130 0).toInt : Int)) (b := (0 : Int)) rfl hb_z h16_101
          refine wk_aload_n xd_4580d93a rfl ?_
          refine wk_getR xf_f18ea7cc xd_f6c40546 ?_
          refine wk_iload_n xd_22bf8274 rfl ?_
          refine aw_aaload (i := 0) xf_631baa43 hk0 rfl xd_ee516aed rfl ?_
          refine aw_astore_n xd_9f9c4e3b (by rw [xm_06117956]; rfl) rfl ?_
          refine wk_aload_n xd_de4a70c8 rfl ?_
          refine wk_getR xf_ab5ddc13 xd_c693bea4 ?_
          refine wk_aload_n xd_c880d640 rfl ?_
          refine wk_getR xf_84230e27 xd_3950a6ee ?_
          obtain ⟨w1, hC1, hG1, hF1, hP1⟩ := jcv_4_131 (w := w) hG
          refine wk_call (kd := 0) (i := 131) xd_ca64ec3a rfl (wk_cal (as := [.inr (.inr (some 4)), .inr (.inr (some 131))]) (t := []) xl_e2638fd5 rfl xn_000cd9ad xc_6360c095 rfl rfl xv_1cbefe77 rfl) (cm_C_mono (by decide) hC1) ?_
          refine wk_aload_n xd_c41cff3b rfl ?_
          refine wk_getR xf_fb059146 xd_e134f961 ?_
          refine wk_aload_n xd_62eb0be3 rfl ?_
          refine wk_getR xf_3d72da84 xd_f50a2a9a ?_
          obtain ⟨w2, hC2, hG2, hF2, hP2⟩ := jcp_33_145 (w := w1) hG1
          refine wk_call (kd := 0) (i := 333) xd_91495437 rfl (wk_cal (as := [.inr (.inr (some 33)), .inr (.inr (some 145))]) (t := []) xl_7963b88c rfl xn_437ab768 xc_33cf4b98 rfl rfl xv_c9e5fcbe rfl) (cm_C_mono (by decide) hC2) ?_
          refine wk_aload_n xd_efeb0499 rfl ?_
          refine wk_getR xf_d54a07f8 xd_6c3af922 ?_
          refine wk_aload_n xd_9577f66a rfl ?_
          refine wk_getR xf_b379ee6c xd_41fbbefc ?_
          obtain ⟨w3, hC3, hG3, hF3, hP3⟩ := jcs_106_152 (w := w2) (jR_eq (by rw [hF2 152 1 (by omega), hF1 152 1 (by omega)]) (fun i _ => by rw [hF2 _ i (by omega), hF1 _ i (by omega)]) (fun i _ => by rw [hF2 _ i (by omega), hF1 _ i (by omega)]) hR2) hG2
          refine wk_call (kd := 0) (i := 377) xd_510a69f4 rfl (wk_cal (as := [.inr (.inr (some 106)), .inr (.inr (some 152))]) (t := []) xl_e90d579e rfl xn_3a06b8dd xc_b41990b9 rfl rfl xv_c9773da4 rfl) (cm_C_mono (by decide) hC3) ?_
          refine wk_aload_n xd_2c864765 rfl ?_
          refine wk_getR xf_087dcd46 xd_af4447f6 ?_
          obtain ⟨w5, hC5, hG5, hF5, hP5⟩ := jfh (w := w3) hG3
          refine wk_call (kd := 0) (i := 140) xd_7979d3c1 rfl (wk_cal (as := [.inr (.inr (some 47))]) (t := []) xl_e34c5633 rfl xn_aadb6e69 xc_b9d9740a rfl rfl xv_919b42ff rfl) (cm_C_mono (by decide) hC5) ?_
          refine wk_iconst xd_34e3bbe7 ?_
          obtain ⟨h1, h2, h3, h4⟩ := hc
          have hst : jL 37 4 w5 := fun f hf hv => by
            rw [hF5 37 f (by omega), hF3 37 f (by omega), hP2 f hf, hF1 149 f (by omega)]
            rw [hF5 4 4 (by omega), hF3 4 4 (by omega), hF2 4 4 (by omega), hP1.1] at hv
            exact h3 f hf hv
          exact wk_ireturn xd_147d583c xr_2e6f8aa4 wk_z1 ⟨_, _, rfl, hG5, ⟨hst, fun j hj => absurd hj (by rw [hP5]; exact Nat.not_lt_zero j), jL_eq (w := w) (by rw [hF5 131 4 (by omega), hF3 131 4 (by omega), hF2 131 4 (by omega), hF1 131 4 (by omega)]) (fun f _ => (by rw [hF5 149 f (by omega), hF3 149 f (by omega), hF2 149 f (by omega), hF1 149 f (by omega)])) h3, jL_eq (w := w) (by rw [hF5 158 4 (by omega), hF3 158 4 (by omega), hF2 158 4 (by omega), hF1 158 4 (by omega)]) (fun f _ => (by rw [hF5 176 f (by omega), hF3 176 f (by omega), hF2 176 f (by omega), hF1 176 f (by omega)])) h4⟩, jR_eq (w := w3) (s := 106) (hF5 106 1 (by omega)) (fun i _ => hF5 _ i (by omega)) (fun i _ => hF5 _ i (by omega)) hP3, jR_eq (w := w) (s := 152) (by rw [hF5 152 1 (by omega), hF3 152 1 (by omega), hF2 152 1 (by omega), hF1 152 1 (by omega)]) (fun i _ => (by rw [hF5 _ i (by omega), hF3 _ i (by omega), hF2 _ i (by omega), hF1 _ i (by omega)])) (fun i _ => (by rw [hF5 _ i (by omega), hF3 _ i (by omega), hF2 _ i (by omega), hF1 _ i (by omega)])) hR2, jR_eq (w := w) (s := 179) (by rw [hF5 179 1 (by omega), hF3 179 1 (by omega), hF2 179 1 (by omega), hF1 179 1 (by omega)]) (fun i _ => (by rw [hF5 _ i (by omega), hF3 _ i (by omega), hF2 _ i (by omega), hF1 _ i (by omega)])) (fun i _ => (by rw [hF5 _ i (by omega), hF3 _ i (by omega), hF2 _ i (by omega), hF1 _ i (by omega)])) hR3, fun c i c1 c2 c3 c4 => (by rw [hF5 c i (by omega), hF3 c i (by omega), hF2 c i (by omega), hF1 c i (by omega)]), .inl ⟨hk0, by omega, rfl⟩⟩
        · have h16_101 := aw_ne_f (a := ((w.1 130 0).toInt : Int)) (b := (0 : Int)) rfl hb_z h16_101
          refine wk_iconst xd_68126e39 ?_
          exact wk_ireturn xd_f2f441d4 xr_2e6f8aa4 wk_z0 ⟨_, _, rfl, hG, hc, hR1, hR2, hR3, fun _ _ _ _ _ _ => rfl, .inr (.inr ⟨by omega, by omega, rfl⟩)⟩
      · skip
        refine wk_aload_n xd_287627a6 rfl ?_
        refine wk_getR xf_f18ea7cc xd_a683abf1 ?_
        refine wk_iload_n xd_7afd8acf rfl ?_
        refine aw_aaload (i := 1) xf_816196bf hk0 rfl xd_dba20357 rfl ?_
        refine wk_getI xf_8436ff66 xd_58c472d8 ?_
        refine wk_if xd_7dfbe136 (t := 21) rfl (fun h16_201 => ?_) (fun h16_201 => ?_)
        · have h16_201 := aw_ne_t (a := ((w.1 157 0).toInt : Int)) (b := (0 : Int)) rfl hb_z h16_201
          refine wk_aload_n xd_4580d93a rfl ?_
          refine wk_getR xf_f18ea7cc xd_f6c40546 ?_
          refine wk_iload_n xd_22bf8274 rfl ?_
          refine aw_aaload (i := 1) xf_816196bf hk0 rfl xd_ee516aed rfl ?_
          refine aw_astore_n xd_9f9c4e3b (by rw [xm_06117956]; rfl) rfl ?_
          refine wk_aload_n xd_de4a70c8 rfl ?_
          refine wk_getR xf_ab5ddc13 xd_c693bea4 ?_
          refine wk_aload_n xd_c880d640 rfl ?_
          refine wk_getR xf_ec0dec2c xd_3950a6ee ?_
          obtain ⟨w1, hC1, hG1, hF1, hP1⟩ := jcv_4_158 (w := w) hG
          refine wk_call (kd := 0) (i := 131) xd_ca64ec3a rfl (wk_cal (as := [.inr (.inr (some 4)), .inr (.inr (some 158))]) (t := []) xl_e2638fd5 rfl xn_000cd9ad xc_6360c095 rfl rfl xv_1cbefe77 rfl) (cm_C_mono (by decide) hC1) ?_
          refine wk_aload_n xd_c41cff3b rfl ?_
          refine wk_getR xf_fb059146 xd_e134f961 ?_
          refine wk_aload_n xd_62eb0be3 rfl ?_
          refine wk_getR xf_2b195a52 xd_f50a2a9a ?_
          obtain ⟨w2, hC2, hG2, hF2, hP2⟩ := jcp_33_172 (w := w1) hG1
          refine wk_call (kd := 0) (i := 333) xd_91495437 rfl (wk_cal (as := [.inr (.inr (some 33)), .inr (.inr (some 172))]) (t := []) xl_7963b88c rfl xn_437ab768 xc_33cf4b98 rfl rfl xv_c9e5fcbe rfl) (cm_C_mono (by decide) hC2) ?_
          refine wk_aload_n xd_efeb0499 rfl ?_
          refine wk_getR xf_d54a07f8 xd_6c3af922 ?_
          refine wk_aload_n xd_9577f66a rfl ?_
          refine wk_getR xf_a2a73637 xd_41fbbefc ?_
          obtain ⟨w3, hC3, hG3, hF3, hP3⟩ := jcs_106_179 (w := w2) (jR_eq (by rw [hF2 179 1 (by omega), hF1 179 1 (by omega)]) (fun i _ => by rw [hF2 _ i (by omega), hF1 _ i (by omega)]) (fun i _ => by rw [hF2 _ i (by omega), hF1 _ i (by omega)]) hR3) hG2
          refine wk_call (kd := 0) (i := 377) xd_510a69f4 rfl (wk_cal (as := [.inr (.inr (some 106)), .inr (.inr (some 179))]) (t := []) xl_e90d579e rfl xn_3a06b8dd xc_b41990b9 rfl rfl xv_c9773da4 rfl) (cm_C_mono (by decide) hC3) ?_
          refine wk_aload_n xd_2c864765 rfl ?_
          refine wk_getR xf_087dcd46 xd_af4447f6 ?_
          obtain ⟨w5, hC5, hG5, hF5, hP5⟩ := jfh (w := w3) hG3
          refine wk_call (kd := 0) (i := 140) xd_7979d3c1 rfl (wk_cal (as := [.inr (.inr (some 47))]) (t := []) xl_e34c5633 rfl xn_aadb6e69 xc_b9d9740a rfl rfl xv_919b42ff rfl) (cm_C_mono (by decide) hC5) ?_
          refine wk_iconst xd_34e3bbe7 ?_
          obtain ⟨h1, h2, h3, h4⟩ := hc
          have hst : jL 37 4 w5 := fun f hf hv => by
            rw [hF5 37 f (by omega), hF3 37 f (by omega), hP2 f hf, hF1 176 f (by omega)]
            rw [hF5 4 4 (by omega), hF3 4 4 (by omega), hF2 4 4 (by omega), hP1.1] at hv
            exact h4 f hf hv
          exact wk_ireturn xd_147d583c xr_2e6f8aa4 wk_z1 ⟨_, _, rfl, hG5, ⟨hst, fun j hj => absurd hj (by rw [hP5]; exact Nat.not_lt_zero j), jL_eq (w := w) (by rw [hF5 131 4 (by omega), hF3 131 4 (by omega), hF2 131 4 (by omega), hF1 131 4 (by omega)]) (fun f _ => (by rw [hF5 149 f (by omega), hF3 149 f (by omega), hF2 149 f (by omega), hF1 149 f (by omega)])) h3, jL_eq (w := w) (by rw [hF5 158 4 (by omega), hF3 158 4 (by omega), hF2 158 4 (by omega), hF1 158 4 (by omega)]) (fun f _ => (by rw [hF5 176 f (by omega), hF3 176 f (by omega), hF2 176 f (by omega), hF1 176 f (by omega)])) h4⟩, jR_eq (w := w3) (s := 106) (hF5 106 1 (by omega)) (fun i _ => hF5 _ i (by omega)) (fun i _ => hF5 _ i (by omega)) hP3, jR_eq (w := w) (s := 152) (by rw [hF5 152 1 (by omega), hF3 152 1 (by omega), hF2 152 1 (by omega), hF1 152 1 (by omega)]) (fun i _ => (by rw [hF5 _ i (by omega), hF3 _ i (by omega), hF2 _ i (by omega), hF1 _ i (by omega)])) (fun i _ => (by rw [hF5 _ i (by omega), hF3 _ i (by omega), hF2 _ i (by omega), hF1 _ i (by omega)])) hR2, jR_eq (w := w) (s := 179) (by rw [hF5 179 1 (by omega), hF3 179 1 (by omega), hF2 179 1 (by omega), hF1 179 1 (by omega)]) (fun i _ => (by rw [hF5 _ i (by omega), hF3 _ i (by omega), hF2 _ i (by omega), hF1 _ i (by omega)])) (fun i _ => (by rw [hF5 _ i (by omega), hF3 _ i (by omega), hF2 _ i (by omega), hF1 _ i (by omega)])) hR3, fun c i c1 c2 c3 c4 => (by rw [hF5 c i (by omega), hF3 c i (by omega), hF2 c i (by omega), hF1 c i (by omega)]), .inr (.inl ⟨hk0, by omega, rfl⟩)⟩
        · have h16_201 := aw_ne_f (a := ((w.1 157 0).toInt : Int)) (b := (0 : Int)) rfl hb_z h16_201
          refine wk_iconst xd_68126e39 ?_
          exact wk_ireturn xd_f2f441d4 xr_2e6f8aa4 wk_z0 ⟨_, _, rfl, hG, hc, hR1, hR2, hR3, fun _ _ _ _ _ _ => rfl, .inr (.inr ⟨by omega, by omega, rfl⟩)⟩
  obtain ⟨o, hC, x, w', rfl, a⟩ := h
  exact ⟨x, w', hC, a⟩

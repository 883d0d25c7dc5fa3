set_option maxRecDepth 100000 in
theorem xd_e9f21233 : decode (ia_code 232) 61 = .ok (.iload 6, 2) := fdd_d (by decide +kernel)
set_option maxRecDepth 100000 in
theorem xd_4a96699e : decode (ia_code 232) 63 = .ok (.iload 5, 2) := fdd_d (by decide +kernel)
set_option maxRecDepth 100000 in
theorem xd_43040b2e : decode (ia_code 232) 65 = .ok (.if_icmp .ge 30, 3) := fdd_d (by decide +kernel)
set_option maxRecDepth 100000 in
theorem xd_acd409e5 : decode (ia_code 232) 95 = .ok (.iconst (-1), 1) := fdd_d (by decide +kernel)
set_option maxRecDepth 100000 in
theorem xd_673c61ee : decode (ia_code 232) 96 = .ok (.ireturn, 1) := fdd_d (by decide +kernel)
set_option maxRecDepth 100000 in
theorem xr_66a9b329 : ia_ret 232 = some .int := by decide +kernel
set_option maxRecDepth 100000 in
theorem xd_53da98db : decode (ia_code 232) 68 = .ok (.iload 6, 2) := fdd_d (by decide +kernel)
set_option maxRecDepth 100000 in
theorem xd_a1034748 : decode (ia_code 232) 70 = .ok (.aload 4, 2) := fdd_d (by decide +kernel)
set_option maxRecDepth 100000 in
theorem xd_caa499a3 : decode (ia_code 232) 72 = .ok (.arraylength, 1) := fdd_d (by decide +kernel)
set_option maxRecDepth 100000 in
theorem xf_8ef9a33c : aw_al 19 6 = true := by decide +kernel
set_option maxRecDepth 100000 in
theorem xd_94235c81 : decode (ia_code 232) 73 = .ok (.if_icmp .ge 22, 3) := fdd_d (by decide +kernel)
set_option maxRecDepth 100000 in
theorem xd_573e428e : decode (ia_code 232) 76 = .ok (.aload 4, 2) := fdd_d (by decide +kernel)
set_option maxRecDepth 100000 in
theorem xd_44f2fc1b : decode (ia_code 232) 78 = .ok (.iload 6, 2) := fdd_d (by decide +kernel)
set_option maxRecDepth 100000 in
theorem xd_f31fda0b : decode (ia_code 232) 80 = .ok (.laload, 1) := fdd_d (by decide +kernel)
set_option maxRecDepth 100000 in
theorem xf_6fe648f8 : aw_lar 19 6 = true := by decide +kernel
set_option maxRecDepth 100000 in
theorem xd_0a449600 : decode (ia_code 232) 81 = .ok (.lload_n 2, 1) := fdd_d (by decide +kernel)
set_option maxRecDepth 100000 in
theorem xd_510de6e3 : decode (ia_code 232) 82 = .ok (.lcmp, 1) := fdd_d (by decide +kernel)
set_option maxRecDepth 100000 in
theorem xd_cd3df622 : decode (ia_code 232) 83 = .ok (.ifCond .ne 6, 3) := fdd_d (by decide +kernel)
set_option maxRecDepth 100000 in
theorem xd_caa5f968 : decode (ia_code 232) 89 = .ok (.iinc 6 1, 3) := fdd_d (by decide +kernel)
set_option maxRecDepth 100000 in
theorem xm_1815dc89 : ia_maxL 232 = 7 := by decide +kernel
set_option maxRecDepth 100000 in
theorem xd_ebfd04e7 : decode (ia_code 232) 92 = .ok (.goto (-31), 3) := fdd_d (by decide +kernel)
set_option maxRecDepth 100000 in
theorem xd_4ba7e8eb : decode (ia_code 232) 86 = .ok (.iload 6, 2) := fdd_d (by decide +kernel)
set_option maxRecDepth 100000 in
theorem xd_a3db099e : decode (ia_code 232) 88 = .ok (.ireturn, 1) := fdd_d (by decide +kernel)
set_option maxRecDepth 100000 in
theorem xd_fb9874dc : decode (ia_code 232) 0 = .ok (.iload_n 1, 1) := fdd_d (by decide +kernel)
set_option maxRecDepth 100000 in
theorem xd_46f7ae7e : decode (ia_code 232) 1 = .ok (.ifCond .ne 10, 3) := fdd_d (by decide +kernel)
set_option maxRecDepth 100000 in
theorem xd_9ca72f92 : decode (ia_code 232) 4 = .ok (.aload_n 0, 1) := fdd_d (by decide +kernel)
set_option maxRecDepth 100000 in
theorem xd_fb87775c : decode (ia_code 232) 5 = .ok (.getfield 15, 3) := fdd_d (by decide +kernel)
set_option maxRecDepth 100000 in
theorem xf_69fa6b2f : wk_gf 232 15 18 7 (19 + 3) = true := by decide +kernel
set_option maxRecDepth 100000 in
theorem xd_78dbf1cc : decode (ia_code 232) 8 = .ok (.goto 19, 3) := fdd_d (by decide +kernel)
set_option maxRecDepth 100000 in
theorem xd_a410a403 : decode (ia_code 232) 27 = .ok (.astore 4, 2) := fdd_d (by decide +kernel)
set_option maxRecDepth 100000 in
theorem xd_5b44ec54 : decode (ia_code 232) 29 = .ok (.iload_n 1, 1) := fdd_d (by decide +kernel)
set_option maxRecDepth 100000 in
theorem xd_a576db8e : decode (ia_code 232) 30 = .ok (.ifCond .ne 10, 3) := fdd_d (by decide +kernel)
set_option maxRecDepth 100000 in
theorem xd_502de361 : decode (ia_code 232) 33 = .ok (.aload_n 0, 1) := fdd_d (by decide +kernel)
set_option maxRecDepth 100000 in
theorem xd_923a073d : decode (ia_code 232) 34 = .ok (.getfield 62, 3) := fdd_d (by decide +kernel)
set_option maxRecDepth 100000 in
theorem xf_bdff49e7 : wk_gf 232 62 18 3 0 = true := by decide +kernel
set_option maxRecDepth 100000 in
theorem xd_359d986a : decode (ia_code 232) 37 = .ok (.goto 19, 3) := fdd_d (by decide +kernel)
set_option maxRecDepth 100000 in
theorem xd_feed0723 : decode (ia_code 232) 56 = .ok (.istore 5, 2) := fdd_d (by decide +kernel)
set_option maxRecDepth 100000 in
theorem xd_bd529a63 : decode (ia_code 232) 58 = .ok (.iconst 0, 1) := fdd_d (by decide +kernel)
set_option maxRecDepth 100000 in
theorem xd_65d765b3 : decode (ia_code 232) 59 = .ok (.istore 6, 2) := fdd_d (by decide +kernel)
set_option maxRecDepth 100000 in
theorem xf_a92be98a : aw_al 20 4 = true := by decide +kernel
set_option maxRecDepth 100000 in
theorem xd_03e3065a : decode (ia_code 232) 11 = .ok (.iload_n 1, 1) := fdd_d (by decide +kernel)
set_option maxRecDepth 100000 in
theorem xd_177dfdc0 : decode (ia_code 232) 12 = .ok (.iconst 1, 1) := fdd_d (by decide +kernel)
set_option maxRecDepth 100000 in
theorem xd_55b51b8d : decode (ia_code 232) 13 = .ok (.if_icmp .ne 10, 3) := fdd_d (by decide +kernel)
set_option maxRecDepth 100000 in
theorem xd_12396429 : decode (ia_code 232) 16 = .ok (.aload_n 0, 1) := fdd_d (by decide +kernel)
set_option maxRecDepth 100000 in
theorem xd_d848fba8 : decode (ia_code 232) 17 = .ok (.getfield 19, 3) := fdd_d (by decide +kernel)
set_option maxRecDepth 100000 in
theorem xf_b16ec2c9 : wk_gf 232 19 18 8 (20 + 3) = true := by decide +kernel
set_option maxRecDepth 100000 in
theorem xd_24d4d6ab : decode (ia_code 232) 20 = .ok (.goto 7, 3) := fdd_d (by decide +kernel)
set_option maxRecDepth 100000 in
theorem xd_70b317f6 : decode (ia_code 232) 40 = .ok (.iload_n 1, 1) := fdd_d (by decide +kernel)
set_option maxRecDepth 100000 in
theorem xd_b52a1bc7 : decode (ia_code 232) 41 = .ok (.iconst 1, 1) := fdd_d (by decide +kernel)
set_option maxRecDepth 100000 in
theorem xd_60695d65 : decode (ia_code 232) 42 = .ok (.if_icmp .ne 10, 3) := fdd_d (by decide +kernel)
set_option maxRecDepth 100000 in
theorem xd_8cffa66c : decode (ia_code 232) 45 = .ok (.aload_n 0, 1) := fdd_d (by decide +kernel)
set_option maxRecDepth 100000 in
theorem xd_68bf8656 : decode (ia_code 232) 46 = .ok (.getfield 65, 3) := fdd_d (by decide +kernel)
set_option maxRecDepth 100000 in
theorem xf_c4225d84 : wk_gf 232 65 18 4 0 = true := by decide +kernel
set_option maxRecDepth 100000 in
theorem xd_2a553e99 : decode (ia_code 232) 49 = .ok (.goto 7, 3) := fdd_d (by decide +kernel)
set_option maxRecDepth 100000 in
theorem xf_04cc85c9 : aw_al 21 6 = true := by decide +kernel
set_option maxRecDepth 100000 in
theorem xf_e5d36e0d : aw_lar 21 6 = true := by decide +kernel
set_option maxRecDepth 100000 in
theorem xd_d1088646 : decode (ia_code 232) 23 = .ok (.aload_n 0, 1) := fdd_d (by decide +kernel)
set_option maxRecDepth 100000 in
theorem xd_eeb6e3bc : decode (ia_code 232) 24 = .ok (.getfield 22, 3) := fdd_d (by decide +kernel)
set_option maxRecDepth 100000 in
theorem xf_1d806272 : wk_gf 232 22 18 9 (21 + 3) = true := by decide +kernel
set_option maxRecDepth 100000 in
theorem xd_7b635be5 : decode (ia_code 232) 52 = .ok (.aload_n 0, 1) := fdd_d (by decide +kernel)
set_option maxRecDepth 100000 in
theorem xd_29043e85 : decode (ia_code 232) 53 = .ok (.getfield 68, 3) := fdd_d (by decide +kernel)
set_option maxRecDepth 100000 in
theorem xf_d7ee44b6 : wk_gf 232 68 18 5 0 = true := by decide +kernel
set_option maxRecDepth 100000 in
theorem xf_ca585044 : aw_al 5 6 = true := by decide +kernel
set_option maxRecDepth 100000 in
theorem xf_db2b8c0f : aw_lar 5 6 = true := by decide +kernel
set_option maxRecDepth 100000 in
theorem xf_d0236983 : wk_gf 232 15 4 7 (5 + 3) = true := by decide +kernel
set_option maxRecDepth 100000 in
theorem xf_b6da1005 : wk_gf 232 62 4 3 0 = true := by decide +kernel
set_option maxRecDepth 100000 in
theorem xf_634aec3a : aw_al 6 4 = true := by decide +kernel
set_option maxRecDepth 100000 in
theorem xf_72393071 : aw_lar 6 4 = true := by decide +kernel
set_option maxRecDepth 100000 in
theorem xf_30355f9c : wk_gf 232 19 4 8 (6 + 3) = true := by decide +kernel
set_option maxRecDepth 100000 in
theorem xf_31cba1bc : wk_gf 232 65 4 4 0 = true := by decide +kernel
set_option maxRecDepth 100000 in
theorem xf_cead8079 : aw_al 7 6 = true := by decide +kernel
set_option maxRecDepth 100000 in
theorem xf_dfde5c32 : aw_lar 7 6 = true := by decide +kernel
set_option maxRecDepth 100000 in
theorem xf_0aa70e13 : wk_gf 232 22 4 9 (7 + 3) = true := by decide +kernel
set_option maxRecDepth 100000 in
theorem xf_69f3bad9 : wk_gf 232 68 4 5 0 = true := by decide +kernel
set_option maxRecDepth 100000 in
theorem xd_37f00949 : decode (ia_code 185) 0 = .ok (.aload_n 0, 1) := fdd_d (by decide +kernel)
set_option maxRecDepth 100000 in
theorem xd_6b235c2a : decode (ia_code 185) 1 = .ok (.getfield 64, 3) := fdd_d (by decide +kernel)
set_option maxRecDepth 100000 in
theorem xf_d2280798 : wk_gf 185 64 2 5 0 = true := by decide +kernel
set_option maxRecDepth 100000 in
theorem xd_f66247a2 : decode (ia_code 185) 4 = .ok (.iconst 2, 1) := fdd_d (by decide +kernel)
set_option maxRecDepth 100000 in
theorem xd_bba6b146 : decode (ia_code 185) 5 = .ok (.if_icmp .ne 15, 3) := fdd_d (by decide +kernel)
set_option maxRecDepth 100000 in
theorem xd_d9a3a385 : decode (ia_code 185) 20 = .ok (.iconst 0, 1) := fdd_d (by decide +kernel)
set_option maxRecDepth 100000 in
theorem xd_545a7dd9 : decode (ia_code 185) 21 = .ok (.ireturn, 1) := fdd_d (by decide +kernel)
set_option maxRecDepth 100000 in
theorem xr_a90a43a5 : ia_ret 185 = some .boolean := by decide +kernel
set_option maxRecDepth 100000 in
theorem xd_37494a6f : decode (ia_code 185) 8 = .ok (.aload_n 0, 1) := fdd_d (by decide +kernel)
set_option maxRecDepth 100000 in
theorem xd_8fc840ed : decode (ia_code 185) 9 = .ok (.getfield 61, 3) := fdd_d (by decide +kernel)
set_option maxRecDepth 100000 in
theorem xf_a375e245 : wk_gf 185 61 2 8 0 = true := by decide +kernel
set_option maxRecDepth 100000 in
theorem xd_aa34d326 : decode (ia_code 185) 12 = .ok (.iconst (-1), 1) := fdd_d (by decide +kernel)
set_option maxRecDepth 100000 in
theorem xd_e6e4997a : decode (ia_code 185) 13 = .ok (.if_icmp .ne 7, 3) := fdd_d (by decide +kernel)
set_option maxRecDepth 100000 in
theorem xd_e0d7e988 : decode (ia_code 185) 16 = .ok (.iconst 1, 1) := fdd_d (by decide +kernel)
set_option maxRecDepth 100000 in
theorem xd_23877760 : decode (ia_code 185) 17 = .ok (.goto 4, 3) := fdd_d (by decide +kernel)
set_option maxRecDepth 100000 in
theorem xm_18794ff2 : ia_maxL 185 = 1 := by decide +kernel
set_option maxRecDepth 100000 in
theorem xd_94f52241 : decode (ia_code 190) 0 = .ok (.aload_n 0, 1) := fdd_d (by decide +kernel)
set_option maxRecDepth 100000 in
theorem xd_68e53248 : decode (ia_code 190) 1 = .ok (.iload_n 1, 1) := fdd_d (by decide +kernel)
set_option maxRecDepth 100000 in
theorem xl_ae872da2 : ia_pl (ia_cls 190) 84 = some (1, 60, 0, 0, 821) := by decide +kernel
set_option maxRecDepth 100000 in
theorem xd_8e6bd859 : decode (ia_code 190) 2 = .ok (.invokevirtual 84, 3) := fdd_d (by decide +kernel)
set_option maxRecDepth 100000 in
theorem xd_9156503e : decode (ia_code 190) 5 = .ok (.ifCond .ne 9, 3) := fdd_d (by decide +kernel)
set_option maxRecDepth 100000 in
theorem xd_897bf8fc : decode (ia_code 190) 14 = .ok (.aload_n 0, 1) := fdd_d (by decide +kernel)
set_option maxRecDepth 100000 in
theorem xl_9cb71ba1 : ia_pl (ia_cls 190) 55 = some (1, 61, 0, 0, 718) := by decide +kernel
set_option maxRecDepth 100000 in
theorem xd_159657b7 : decode (ia_code 190) 15 = .ok (.invokevirtual 55, 3) := fdd_d (by decide +kernel)
set_option maxRecDepth 100000 in
theorem xd_8860be00 : decode (ia_code 190) 18 = .ok (.iconst 1, 1) := fdd_d (by decide +kernel)
set_option maxRecDepth 100000 in
theorem xd_f1fba58d : decode (ia_code 190) 19 = .ok (.ireturn, 1) := fdd_d (by decide +kernel)
set_option maxRecDepth 100000 in
theorem xr_b2f619c8 : ia_ret 190 = some .boolean := by decide +kernel
set_option maxRecDepth 100000 in
theorem xd_944c6167 : decode (ia_code 190) 8 = .ok (.aload_n 0, 1) := fdd_d (by decide +kernel)
set_option maxRecDepth 100000 in
theorem xd_fa2390d0 : decode (ia_code 190) 9 = .ok (.iconst 1, 1) := fdd_d (by decide +kernel)
set_option maxRecDepth 100000 in
theorem xl_fa6feb01 : ia_pl (ia_cls 190) 80 = some (1, 63, 0, 0, 738) := by decide +kernel
set_option maxRecDepth 100000 in
theorem xd_ac0ba431 : decode (ia_code 190) 10 = .ok (.invokevirtual 80, 3) := fdd_d (by decide +kernel)
set_option maxRecDepth 100000 in
theorem xd_30cdad86 : decode (ia_code 190) 13 = .ok (.ireturn, 1) := fdd_d (by decide +kernel)
set_option maxRecDepth 100000 in
theorem xm_82cc429d : ia_maxL 190 = 2 := by decide +kernel
set_option maxRecDepth 100000 in
theorem xd_886112c2 : decode (ia_code 59) 0 = .ok (.aload_n 0, 1) := fdd_d (by decide +kernel)
set_option maxRecDepth 100000 in
theorem xd_39316bd7 : decode (ia_code 59) 1 = .ok (.getfield 64, 3) := fdd_d (by decide +kernel)
set_option maxRecDepth 100000 in
theorem xf_d6f06778 : wk_gf 59 64 2 5 0 = true := by decide +kernel
set_option maxRecDepth 100000 in
theorem xd_bd3fce2b : decode (ia_code 59) 4 = .ok (.ifCond .ne 14, 3) := fdd_d (by decide +kernel)
set_option maxRecDepth 100000 in
theorem xd_fd335ce3 : decode (ia_code 59) 18 = .ok (.aload_n 0, 1) := fdd_d (by decide +kernel)
set_option maxRecDepth 100000 in
theorem xd_83dcea43 : decode (ia_code 59) 19 = .ok (.iconst 1, 1) := fdd_d (by decide +kernel)
set_option maxRecDepth 100000 in
theorem xl_1126b2d4 : ia_pl (ia_cls 59) 80 = some (1, 63, 0, 0, 738) := by decide +kernel
set_option maxRecDepth 100000 in
theorem xd_e91394ff : decode (ia_code 59) 20 = .ok (.invokevirtual 80, 3) := fdd_d (by decide +kernel)
set_option maxRecDepth 100000 in
theorem xd_20b92d80 : decode (ia_code 59) 23 = .ok (.ifCond .eq 7, 3) := fdd_d (by decide +kernel)
set_option maxRecDepth 100000 in
theorem xd_fd4152da : decode (ia_code 59) 30 = .ok (.iconst 0, 1) := fdd_d (by decide +kernel)
set_option maxRecDepth 100000 in
theorem xd_0208842a : decode (ia_code 59) 31 = .ok (.ireturn, 1) := fdd_d (by decide +kernel)
set_option maxRecDepth 100000 in
theorem xr_6137ceb7 : ia_ret 59 = some .boolean := by decide +kernel
set_option maxRecDepth 100000 in
theorem xd_fed88a6c : decode (ia_code 59) 7 = .ok (.aload_n 0, 1) := fdd_d (by decide +kernel)
set_option maxRecDepth 100000 in
theorem xd_18ec3d6c : decode (ia_code 59) 8 = .ok (.getfield 39, 3) := fdd_d (by decide +kernel)
set_option maxRecDepth 100000 in
theorem xf_b051b2d1 : wk_gf 59 39 2 2 0 = true := by decide +kernel
set_option maxRecDepth 100000 in
theorem xd_66f9f511 : decode (ia_code 59) 11 = .ok (.aload_n 0, 1) := fdd_d (by decide +kernel)
set_option maxRecDepth 100000 in
theorem xd_c2c43f0e : decode (ia_code 59) 12 = .ok (.getfield 43, 3) := fdd_d (by decide +kernel)
set_option maxRecDepth 100000 in
theorem xf_16a50c6e : wk_gf 59 43 2 3 0 = true := by decide +kernel
set_option maxRecDepth 100000 in
theorem xd_09c7b892 : decode (ia_code 59) 15 = .ok (.if_icmp .le 11, 3) := fdd_d (by decide +kernel)
set_option maxRecDepth 100000 in
theorem xd_29a3cb3e : decode (ia_code 59) 26 = .ok (.iconst 1, 1) := fdd_d (by decide +kernel)
set_option maxRecDepth 100000 in
theorem xd_267ea628 : decode (ia_code 59) 27 = .ok (.goto 4, 3) := fdd_d (by decide +kernel)
set_option maxRecDepth 100000 in
theorem xm_81764506 : ia_maxL 59 = 1 := by decide +kernel
/-! ## the class's reader: names and signs (wip/p4/gen9vh.py) -/
/-- the first of k names from b on that is c; -1: none -/
def tx_fd (nm : Nat → Nat) (b c : Nat) : Nat → Nat → Int
  | 0, _ => -1
  | f + 1, i => if nm (b + i) = c then (i : Int) else tx_fd nm b c f (i + 1)
def tx_find (nm : Nat → Nat) (b k c : Nat) : Int := tx_fd nm b c k 0
theorem tx_fd_at {nm : Nat → Nat} {b c i : Nat} (hi : nm (b + i) = c) : ∀ f j, j ≤ i → i < f + j → (∀ q, j ≤ q → q < i → nm (b + q) ≠ c) → tx_fd nm b c f j = i := by
  intro f
  induction f with
  | zero => exact fun j h1 h2 _ => absurd h2 (by omega)
  | succ f ih =>
    intro j h1 h2 h3
    show (if nm (b + j) = c then (j : Int) else tx_fd nm b c f (j + 1)) = i
    by_cases e : j = i
    · rw [e, if_pos hi]
    · rw [if_neg (h3 j (Nat.le_refl j) (by omega))]
      exact ih (j + 1) (by omega) (by omega) (fun q a b => h3 q (by omega) b)
theorem tx_find_at {nm : Nat → Nat} {b k c i : Nat} (hi : nm (b + i) = c) (hk : i < k) (h : ∀ q, q < i → nm (b + q) ≠ c) : tx_find nm b k c = i := tx_fd_at hi k 0 (by omega) (by omega) (fun q _ a => h q a)
theorem tx_fd_no {nm : Nat → Nat} {b c : Nat} : ∀ f j, (∀ q, j ≤ q → q < f + j → nm (b + q) ≠ c) → tx_fd nm b c f j = -1 := by
  intro f
  induction f with
  | zero => exact fun j _ => rfl
  | succ f ih =>
    intro j h
    show (if nm (b + j) = c then (j : Int) else tx_fd nm b c f (j + 1)) = -1
    rw [if_neg (h j (Nat.le_refl j) (by omega))]
    exact ih (j + 1) (fun q a b => h q (by omega) (by omega))
theorem tx_find_no {nm : Nat → Nat} {b k c : Nat} (h : ∀ q, q < k → nm (b + q) ≠ c) : tx_find nm b k c = -1 := tx_fd_no k 0 (fun q _ a => h q (by omega))
theorem tx_find_b {nm : Nat → Nat} {b k c : Nat} : tx_find nm b k c = -1 ∨ (0 ≤ tx_find nm b k c ∧ tx_find nm b k c < k) := by
  have go : ∀ f j, tx_fd nm b c f j = -1 ∨ ((j : Int) ≤ tx_fd nm b c f j ∧ tx_fd nm b c f j < (f + j : Nat)) := by
    intro f
    induction f with
    | zero => exact fun j => .inl rfl
    | succ f ih =>
      intro j
      show (if nm (b + j) = c then (j : Int) else tx_fd nm b c f (j + 1)) = -1 ∨ ((j : Int) ≤ (if nm (b + j) = c then (j : Int) else tx_fd nm b c f (j + 1)) ∧ (if nm (b + j) = c then (j : Int) else tx_fd nm b c f (j + 1)) < (f + 1 + j : Nat))
      split
      · exact .inr ⟨Int.le_refl _, by omega⟩
      · rcases ih (j + 1) with h | h
        · exact .inl h
        · exact .inr ⟨by omega, by omega⟩
  rcases go k 0 with h | h
  · exact .inl h
  · exact .inr ⟨by have := h.1; unfold tx_find; omega, by have := h.2; unfold tx_find; omega⟩
/-- a valley's names, as the class holds them: 0 .. 5 persons, 6 .. 9 foods, 10 .. 15 meetings -/
def rd_N (w : cm_W) (arr b k : Nat) (nm : Nat → Nat) : Prop := ∀ j, j < k → w.2 arr j = Int64.ofNat (nm (b + j)) ∧ nm (b + j) < 32 ^ 7
theorem no_18_0_lp {w : cm_W} {nm : Nat → Nat} {k c : Nat} {l : Int64} {z vk : Int32} (hN : rd_N w 19 0 k nm) (hkl : k ≤ 6) (hl : l = Int64.ofNat c) (hc : c < 32 ^ 7) (hvk : vk.toInt = (k : Int)) (Q : cm_O → Prop) (hQ : ∀ x : Int32, x.toInt = tx_find nm 0 k c → Q (some (.inl x), w)) : ∀ (f i : Nat) (vi : Int32), f + i = k → vi.toInt = (i : Int) → (∀ q, q < i → nm (0 + q) ≠ c) → cm_X (cm_C 0) 232 61 [some (.inr (.inr (some 18))), some (.inl z), some (.inr (.inl l)), none, some (.inr (.inr (some 19))), some (.inl vk), some (.inl vi)] [] w Q := by
  intro f
  induction f with
  | zero =>
    intro i vi hi hvi hno
    refine wk_iload xd_e9f21233 rfl ?_
    refine wk_iload xd_4a96699e rfl ?_
    refine wk_icmp xd_43040b2e (t := 95) rfl (fun h65_0 => ?_) (fun h65_0 => ?_)
    · have h65_0 := aw_ge_t (a := ((i : Int) : Int)) (b := ((k : Int) : Int)) hvi hvk h65_0
      refine wk_iconst xd_acd409e5 ?_
      exact wk_ireturn xd_673c61ee xr_66a9b329 rfl (hQ _ (by rw [tx_find_no (fun q hq => hno q (by omega))]; decide))
    · have h65_0 := aw_ge_f (a := ((i : Int) : Int)) (b := ((k : Int) : Int)) hvi hvk h65_0
      exfalso
      omega
  | succ f ih =>
    intro i vi hi hvi hno
    refine wk_iload xd_e9f21233 rfl ?_
    refine wk_iload xd_4a96699e rfl ?_
    refine wk_icmp xd_43040b2e (t := 95) rfl (fun h65_1 => ?_) (fun h65_1 => ?_)
    · have h65_1 := aw_ge_t (a := ((i : Int) : Int)) (b := ((k : Int) : Int)) hvi hvk h65_1
      exfalso
      omega
    · have h65_1 := aw_ge_f (a := ((i : Int) : Int)) (b := ((k : Int) : Int)) hvi hvk h65_1
      refine wk_iload xd_53da98db rfl ?_
      refine wk_aload xd_a1034748 rfl ?_
      refine aw_alen xf_8ef9a33c xd_caa499a3 ?_
      refine wk_icmp xd_94235c81 (t := 95) rfl (fun h73_2 => ?_) (fun h73_2 => ?_)
      · have h73_2 := aw_ge_t (a := ((i : Int) : Int)) (b := (6 : Int)) hvi (show ((Int32.ofNat 6)).toInt = 6 from by decide) h73_2
        exfalso
        omega
      · have h73_2 := aw_ge_f (a := ((i : Int) : Int)) (b := (6 : Int)) hvi (show ((Int32.ofNat 6)).toInt = 6 from by decide) h73_2
        refine wk_aload xd_573e428e rfl ?_
        refine wk_iload xd_44f2fc1b rfl ?_
        refine aw_laload (i := i) xf_6fe648f8 hvi (by omega) (by omega) xd_f31fda0b ?_
        refine aw_lload_n xd_0a449600 rfl ?_
        refine aw_lcmp xd_510de6e3 ?_
        refine wk_if xd_cd3df622 (t := 89) rfl (fun h83_3 => ?_) (fun h83_3 => ?_)
        · have h83_3 := aw_ne_t (a := ((lg_cmp (w.2 19 i) l).toInt : Int)) (b := (0 : Int)) rfl hb_z h83_3
          have hne : nm (0 + i) ≠ c := fun e => h83_3 (by rw [(hN i (by omega)).1, hl, e]; exact tx_lg0 _)
          refine aw_iinc (a := ((i : Int) : Int)) (b := (1 : Int)) (e := ((i : Int) + 1 : Int)) xd_caa5f968 (by rw [xm_1815dc89]; rfl) rfl rfl hvi (show ((Int32.ofInt 1)).toInt = 1 from by decide) (by omega) (by omega) (by omega) (fun v5_ p5_ => ?_)
          refine wk_goto xd_ebfd04e7 (t := 61) rfl ?_
          refine ih (i + 1) _ (by omega) (by omega) (fun q hq => ?_)
          by_cases e : q = i
          · rw [e]
            exact hne
          · exact hno q (by omega)
        · have h83_3 := aw_ne_f (a := ((lg_cmp (w.2 19 i) l).toInt : Int)) (b := (0 : Int)) rfl hb_z h83_3
          have hq := h83_3
          refine wk_iload xd_4ba7e8eb rfl ?_
          have heq : nm (0 + i) = c := tx_i64 (by have := (hN i (by omega)).2; omega) (by omega) (by have e9 := tx_lg1 hq; rw [(hN i (by omega)).1, hl] at e9; exact e9)
          exact wk_ireturn xd_a3db099e xr_66a9b329 rfl (hQ _ (by rw [tx_find_at heq (by omega) hno]; exact hvi))
theorem no_18_0 {w : cm_W} {nm : Nat → Nat} {k c : Nat} {l : Int64} {z : Int32} (hz : z.toInt = 0) (hk : (w.1 18 3).toInt = (k : Int)) (hN : rd_N w 19 0 k nm) (hkl : k ≤ 6) (hl : l = Int64.ofNat c) (hc : c < 32 ^ 7) : ∃ x, cm_C 1 232 [.inr (.inr (some 18)), .inl z, .inr (.inl l)] w (some (.inl x), w) ∧ x.toInt = tx_find nm 0 k c := by
  have h : ∃ o, cm_C (0 + 1) 232 [.inr (.inr (some 18)), .inl z, .inr (.inl l)] w o ∧ (fun o : cm_O => ∃ x, o = (some (.inl x), w) ∧ x.toInt = tx_find nm 0 k c) o := by
    refine wk_entry (by rw [xm_1815dc89]; exact Nat.le_of_ble_eq_true rfl) ?_
    rw [show cm_ent 232 [.inr (.inr (some 18)), .inl z, .inr (.inl l)] = [some (.inr (.inr (some 18))), some (.inl z), some (.inr (.inl l)), none, none, none, none] from by unfold cm_ent; rw [xm_1815dc89]; rfl]
    refine wk_iload_n xd_fb9874dc rfl ?_
    refine wk_if xd_46f7ae7e (t := 11) rfl (fun h => absurd (aw_ne_t hz hb_z h) (by omega)) (fun _ => ?_)
    refine wk_aload_n xd_9ca72f92 rfl ?_
    refine wk_getR xf_69fa6b2f xd_fb87775c ?_
    refine wk_goto xd_78dbf1cc (t := 27) rfl ?_
    refine aw_astore xd_a410a403 (by rw [xm_1815dc89]; rfl) rfl ?_
    refine wk_iload_n xd_5b44ec54 rfl ?_
    refine wk_if xd_a576db8e (t := 40) rfl (fun h => absurd (aw_ne_t hz hb_z h) (by omega)) (fun _ => ?_)
    refine wk_aload_n xd_502de361 rfl ?_
    refine wk_getI xf_bdff49e7 xd_923a073d ?_
    refine wk_goto xd_359d986a (t := 56) rfl ?_
    refine wk_istore xd_feed0723 (by rw [xm_1815dc89]; rfl) rfl ?_
    refine wk_iconst xd_bd529a63 ?_
    refine wk_istore xd_65d765b3 (by rw [xm_1815dc89]; rfl) rfl ?_
    exact no_18_0_lp hN hkl hl hc hk _ (fun x hx => ⟨x, rfl, hx⟩) k 0 _ (by omega) (by decide) (fun q hq => absurd hq (Nat.not_lt_zero q))
  obtain ⟨o, hC, x, rfl, a⟩ := h
  exact ⟨x, hC, a⟩
theorem no_18_1_lp {w : cm_W} {nm : Nat → Nat} {k c : Nat} {l : Int64} {z vk : Int32} (hN : rd_N w 20 6 k nm) (hkl : k ≤ 4) (hl : l = Int64.ofNat c) (hc : c < 32 ^ 7) (hvk : vk.toInt = (k : Int)) (Q : cm_O → Prop) (hQ : ∀ x : Int32, x.toInt = tx_find nm 6 k c → Q (some (.inl x), w)) : ∀ (f i : Nat) (vi : Int32), f + i = k → vi.toInt = (i : Int) → (∀ q, q < i → nm (6 + q) ≠ c) → cm_X (cm_C 0) 232 61 [some (.inr (.inr (some 18))), some (.inl z), some (.inr (.inl l)), none, some (.inr (.inr (some 20))), some (.inl vk), some (.inl vi)] [] w Q := by
  intro f
  induction f with
  | zero =>
    intro i vi hi hvi hno
    refine wk_iload xd_e9f21233 rfl ?_
    refine wk_iload xd_4a96699e rfl ?_
    refine wk_icmp xd_43040b2e (t := 95) rfl (fun h65_0 => ?_) (fun h65_0 => ?_)
    · have h65_0 := aw_ge_t (a := ((i : Int) : Int)) (b := ((k : Int) : Int)) hvi hvk h65_0
      refine wk_iconst xd_acd409e5 ?_
      exact wk_ireturn xd_673c61ee xr_66a9b329 rfl (hQ _ (by rw [tx_find_no (fun q hq => hno q (by omega))]; decide))
    · have h65_0 := aw_ge_f (a := ((i : Int) : Int)) (b := ((k : Int) : Int)) hvi hvk h65_0
      exfalso
      omega
  | succ f ih =>
    intro i vi hi hvi hno
    refine wk_iload xd_e9f21233 rfl ?_
    refine wk_iload xd_4a96699e rfl ?_
    refine wk_icmp xd_43040b2e (t := 95) rfl (fun h65_1 => ?_) (fun h65_1 => ?_)
    · have h65_1 := aw_ge_t (a := ((i : Int) : Int)) (b := ((k : Int) : Int)) hvi hvk h65_1
      exfalso
      omega
    · have h65_1 := aw_ge_f (a := ((i : Int) : Int)) (b := ((k : Int) : Int)) hvi hvk h65_1
      refine wk_iload xd_53da98db rfl ?_
      refine wk_aload xd_a1034748 rfl ?_
      refine aw_alen xf_a92be98a xd_caa499a3 ?_
      refine wk_icmp xd_94235c81 (t := 95) rfl (fun h73_2 => ?_) (fun h73_2 => ?_)
      · have h73_2 := aw_ge_t (a := ((i : Int) : Int)) (b := (4 : Int)) hvi (show ((Int32.ofNat 4)).toInt = 4 from by decide) h73_2
        exfalso
        omega
      · have h73_2 := aw_ge_f (a := ((i : Int) : Int)) (b := (4 : Int)) hvi (show ((Int32.ofNat 4)).toInt = 4 from by decide) h73_2
        refine wk_aload xd_573e428e rfl ?_
        refine wk_iload xd_44f2fc1b rfl ?_
        refine aw_laload (i := i) xf_4834024e hvi (by omega) (by omega) xd_f31fda0b ?_
        refine aw_lload_n xd_0a449600 rfl ?_
        refine aw_lcmp xd_510de6e3 ?_
        refine wk_if xd_cd3df622 (t := 89) rfl (fun h83_3 => ?_) (fun h83_3 => ?_)
        · have h83_3 := aw_ne_t (a := ((lg_cmp (w.2 20 i) l).toInt : Int)) (b := (0 : Int)) rfl hb_z h83_3
          have hne : nm (6 + i) ≠ c := fun e => h83_3 (by rw [(hN i (by omega)).1, hl, e]; exact tx_lg0 _)
          refine aw_iinc (a := ((i : Int) : Int)) (b := (1 : Int)) (e := ((i : Int) + 1 : Int)) xd_caa5f968 (by rw [xm_1815dc89]; rfl) rfl rfl hvi (show ((Int32.ofInt 1)).toInt = 1 from by decide) (by omega) (by omega) (by omega) (fun v5_ p5_ => ?_)
          refine wk_goto xd_ebfd04e7 (t := 61) rfl ?_
          refine ih (i + 1) _ (by omega) (by omega) (fun q hq => ?_)
          by_cases e : q = i
          · rw [e]
            exact hne
          · exact hno q (by omega)
        · have h83_3 := aw_ne_f (a := ((lg_cmp (w.2 20 i) l).toInt : Int)) (b := (0 : Int)) rfl hb_z h83_3
          have hq := h83_3
          refine wk_iload xd_4ba7e8eb rfl ?_
          have heq : nm (6 + i) = c := tx_i64 (by have := (hN i (by omega)).2; omega) (by omega) (by have e9 := tx_lg1 hq; rw [(hN i (by omega)).1, hl] at e9; exact e9)
          exact wk_ireturn xd_a3db099e xr_66a9b329 rfl (hQ _ (by rw [tx_find_at heq (by omega) hno]; exact hvi))
theorem no_18_1 {w : cm_W} {nm : Nat → Nat} {k c : Nat} {l : Int64} {z : Int32} (hz : z.toInt = 1) (hk : (w.1 18 4).toInt = (k : Int)) (hN : rd_N w 20 6 k nm) (hkl : k ≤ 4) (hl : l = Int64.ofNat c) (hc : c < 32 ^ 7) : ∃ x, cm_C 1 232 [.inr (.inr (some 18)), .inl z, .inr (.inl l)] w (some (.inl x), w) ∧ x.toInt = tx_find nm 6 k c := by
  have h : ∃ o, cm_C (0 + 1) 232 [.inr (.inr (some 18)), .inl z, .inr (.inl l)] w o ∧ (fun o : cm_O => ∃ x, o = (some (.inl x), w) ∧ x.toInt = tx_find nm 6 k c) o := by
    refine wk_entry (by rw [xm_1815dc89]; exact Nat.le_of_ble_eq_true rfl) ?_
    rw [show cm_ent 232 [.inr (.inr (some 18)), .inl z, .inr (.inl l)] = [some (.inr (.inr (some 18))), some (.inl z), some (.inr (.inl l)), none, none, none, none] from by unfold cm_ent; rw [xm_1815dc89]; rfl]
    refine wk_iload_n xd_fb9874dc rfl ?_
    refine wk_if xd_46f7ae7e (t := 11) rfl (fun _ => ?_) (fun h => absurd (aw_ne_f hz hb_z h) (by omega))
    refine wk_iload_n xd_03e3065a rfl ?_
    refine wk_iconst xd_177dfdc0 ?_
    refine wk_icmp xd_55b51b8d (t := 23) rfl (fun h => absurd (aw_ne_t hz (show ((Int32.ofInt 1)).toInt = 1 from by decide) h) (by omega)) (fun _ => ?_)
    refine wk_aload_n xd_12396429 rfl ?_
    refine wk_getR xf_b16ec2c9 xd_d848fba8 ?_
    refine wk_goto xd_24d4d6ab (t := 27) rfl ?_
    refine aw_astore xd_a410a403 (by rw [xm_1815dc89]; rfl) rfl ?_
    refine wk_iload_n xd_5b44ec54 rfl ?_
    refine wk_if xd_a576db8e (t := 40) rfl (fun _ => ?_) (fun h => absurd (aw_ne_f hz hb_z h) (by omega))
    refine wk_iload_n xd_70b317f6 rfl ?_
    refine wk_iconst xd_b52a1bc7 ?_
    refine wk_icmp xd_60695d65 (t := 52) rfl (fun h => absurd (aw_ne_t hz (show ((Int32.ofInt 1)).toInt = 1 from by decide) h) (by omega)) (fun _ => ?_)
    refine wk_aload_n xd_8cffa66c rfl ?_
    refine wk_getI xf_c4225d84 xd_68bf8656 ?_
    refine wk_goto xd_2a553e99 (t := 56) rfl ?_
    refine wk_istore xd_feed0723 (by rw [xm_1815dc89]; rfl) rfl ?_
    refine wk_iconst xd_bd529a63 ?_
    refine wk_istore xd_65d765b3 (by rw [xm_1815dc89]; rfl) rfl ?_
    exact no_18_1_lp hN hkl hl hc hk _ (fun x hx => ⟨x, rfl, hx⟩) k 0 _ (by omega) (by decide) (fun q hq => absurd hq (Nat.not_lt_zero q))
  obtain ⟨o, hC, x, rfl, a⟩ := h
  exact ⟨x, hC, a⟩
theorem no_18_2_lp {w : cm_W} {nm : Nat → Nat} {k c : Nat} {l : Int64} {z vk : Int32} (hN : rd_N w 21 10 k nm) (hkl : k ≤ 6) (hl : l = Int64.ofNat c) (hc : c < 32 ^ 7) (hvk : vk.toInt = (k : Int)) (Q : cm_O → Prop) (hQ : ∀ x : Int32, x.toInt = tx_find nm 10 k c → Q (some (.inl x), w)) : ∀ (f i : Nat) (vi : Int32), f + i = k → vi.toInt = (i : Int) → (∀ q, q < i → nm (10 + q) ≠ c) → cm_X (cm_C 0) 232 61 [some (.inr (.inr (some 18))), some (.inl z), some (.inr (.inl l)), none, some (.inr (.inr (some 21))), some (.inl vk), some (.inl vi)] [] w Q := by
  intro f
  induction f with
  | zero =>
    intro i vi hi hvi hno
    refine wk_iload xd_e9f21233 rfl ?_
    refine wk_iload xd_4a96699e rfl ?_
    refine wk_icmp xd_43040b2e (t := 95) rfl (fun h65_0 => ?_) (fun h65_0 => ?_)
    · have h65_0 := aw_ge_t (a := ((i : Int) : Int)) (b := ((k : Int) : Int)) hvi hvk h65_0
      refine wk_iconst xd_acd409e5 ?_
      exact wk_ireturn xd_673c61ee xr_66a9b329 rfl (hQ _ (by rw [tx_find_no (fun q hq => hno q (by omega))]; decide))
    · have h65_0 := aw_ge_f (a := ((i : Int) : Int)) (b := ((k : Int) : Int)) hvi hvk h65_0
      exfalso
      omega
  | succ f ih =>
    intro i vi hi hvi hno
    refine wk_iload xd_e9f21233 rfl ?_
    refine wk_iload xd_4a96699e rfl ?_
    refine wk_icmp xd_43040b2e (t := 95) rfl (fun h65_1 => ?_) (fun h65_1 => ?_)
    · have h65_1 := aw_ge_t (a := ((i : Int) : Int)) (b := ((k : Int) : Int)) hvi hvk h65_1
      exfalso
      omega
    · have h65_1 := aw_ge_f (a := ((i : Int) : Int)) (b := ((k : Int) : Int)) hvi hvk h65_1
      refine wk_iload xd_53da98db rfl ?_
      refine wk_aload xd_a1034748 rfl ?_
      refine aw_alen xf_04cc85c9 xd_caa499a3 ?_
      refine wk_icmp xd_94235c81 (t := 95) rfl (fun h73_2 => ?_) (fun h73_2 => ?_)
      · have h73_2 := aw_ge_t (a := ((i : Int) : Int)) (b := (6 : Int)) hvi (show ((Int32.ofNat 6)).toInt = 6 from by decide) h73_2
        exfalso
        omega
      · have h73_2 := aw_ge_f (a := ((i : Int) : Int)) (b := (6 : Int)) hvi (show ((Int32.ofNat 6)).toInt = 6 from by decide) h73_2
        refine wk_aload xd_573e428e rfl ?_
        refine wk_iload xd_44f2fc1b rfl ?_
        refine aw_laload (i := i) xf_e5d36e0d hvi (by omega) (by omega) xd_f31fda0b ?_
        refine aw_lload_n xd_0a449600 rfl ?_
        refine aw_lcmp xd_510de6e3 ?_
        refine wk_if xd_cd3df622 (t := 89) rfl (fun h83_3 => ?_) (fun h83_3 => ?_)
        · have h83_3 := aw_ne_t (a := ((lg_cmp (w.2 21 i) l).toInt : Int)) (b := (0 : Int)) rfl hb_z h83_3
          have hne : nm (10 + i) ≠ c := fun e => h83_3 (by rw [(hN i (by omega)).1, hl, e]; exact tx_lg0 _)
          refine aw_iinc (a := ((i : Int) : Int)) (b := (1 : Int)) (e := ((i : Int) + 1 : Int)) xd_caa5f968 (by rw [xm_1815dc89]; rfl) rfl rfl hvi (show ((Int32.ofInt 1)).toInt = 1 from by decide) (by omega) (by omega) (by omega) (fun v5_ p5_ => ?_)
          refine wk_goto xd_ebfd04e7 (t := 61) rfl ?_
          refine ih (i + 1) _ (by omega) (by omega) (fun q hq => ?_)
          by_cases e : q = i
          · rw [e]
            exact hne
          · exact hno q (by omega)
        · have h83_3 := aw_ne_f (a := ((lg_cmp (w.2 21 i) l).toInt : Int)) (b := (0 : Int)) rfl hb_z h83_3
          have hq := h83_3
          refine wk_iload xd_4ba7e8eb rfl ?_
          have heq : nm (10 + i) = c := tx_i64 (by have := (hN i (by omega)).2; omega) (by omega) (by have e9 := tx_lg1 hq; rw [(hN i (by omega)).1, hl] at e9; exact e9)
          exact wk_ireturn xd_a3db099e xr_66a9b329 rfl (hQ _ (by rw [tx_find_at heq (by omega) hno]; exact hvi))
theorem no_18_2 {w : cm_W} {nm : Nat → Nat} {k c : Nat} {l : Int64} {z : Int32} (hz : z.toInt = 2) (hk : (w.1 18 5).toInt = (k : Int)) (hN : rd_N w 21 10 k nm) (hkl : k ≤ 6) (hl : l = Int64.ofNat c) (hc : c < 32 ^ 7) : ∃ x, cm_C 1 232 [.inr (.inr (some 18)), .inl z, .inr (.inl l)] w (some (.inl x), w) ∧ x.toInt = tx_find nm 10 k c := by
  have h : ∃ o, cm_C (0 + 1) 232 [.inr (.inr (some 18)), .inl z, .inr (.inl l)] w o ∧ (fun o : cm_O => ∃ x, o = (some (.inl x), w) ∧ x.toInt = tx_find nm 10 k c) o := by
    refine wk_entry (by rw [xm_1815dc89]; exact Nat.le_of_ble_eq_true rfl) ?_
    rw [show cm_ent 232 [.inr (.inr (some 18)), .inl z, .inr (.inl l)] = [some (.inr (.inr (some 18))), some (.inl z), some (.inr (.inl l)), none, none, none, none] from by unfold cm_ent; rw [xm_1815dc89]; rfl]
    refine wk_iload_n xd_fb9874dc rfl ?_
    refine wk_if xd_46f7ae7e (t := 11) rfl (fun _ => ?_) (fun h => absurd (aw_ne_f hz hb_z h) (by omega))
    refine wk_iload_n xd_03e3065a rfl ?_
    refine wk_iconst xd_177dfdc0 ?_
    refine wk_icmp xd_55b51b8d (t := 23) rfl (fun _ => ?_) (fun h => absurd (aw_ne_f hz (show ((Int32.ofInt 1)).toInt = 1 from by decide) h) (by omega))
    refine wk_aload_n xd_d1088646 rfl ?_
    refine wk_getR xf_1d806272 xd_eeb6e3bc ?_
    refine aw_astore xd_a410a403 (by rw [xm_1815dc89]; rfl) rfl ?_
    refine wk_iload_n xd_5b44ec54 rfl ?_
    refine wk_if xd_a576db8e (t := 40) rfl (fun _ => ?_) (fun h => absurd (aw_ne_f hz hb_z h) (by omega))
    refine wk_iload_n xd_70b317f6 rfl ?_
    refine wk_iconst xd_b52a1bc7 ?_
    refine wk_icmp xd_60695d65 (t := 52) rfl (fun _ => ?_) (fun h => absurd (aw_ne_f hz (show ((Int32.ofInt 1)).toInt = 1 from by decide) h) (by omega))
    refine wk_aload_n xd_7b635be5 rfl ?_
    refine wk_getI xf_d7ee44b6 xd_29043e85 ?_
    refine wk_istore xd_feed0723 (by rw [xm_1815dc89]; rfl) rfl ?_
    refine wk_iconst xd_bd529a63 ?_
    refine wk_istore xd_65d765b3 (by rw [xm_1815dc89]; rfl) rfl ?_
    exact no_18_2_lp hN hkl hl hc hk _ (fun x hx => ⟨x, rfl, hx⟩) k 0 _ (by omega) (by decide) (fun q hq => absurd hq (Nat.not_lt_zero q))
  obtain ⟨o, hC, x, rfl, a⟩ := h
  exact ⟨x, hC, a⟩
theorem no_4_0_lp {w : cm_W} {nm : Nat → Nat} {k c : Nat} {l : Int64} {z vk : Int32} (hN : rd_N w 5 0 k nm) (hkl : k ≤ 6) (hl : l = Int64.ofNat c) (hc : c < 32 ^ 7) (hvk : vk.toInt = (k : Int)) (Q : cm_O → Prop) (hQ : ∀ x : Int32, x.toInt = tx_find nm 0 k c → Q (some (.inl x), w)) : ∀ (f i : Nat) (vi : Int32), f + i = k → vi.toInt = (i : Int) → (∀ q, q < i → nm (0 + q) ≠ c) → cm_X (cm_C 0) 232 61 [some (.inr (.inr (some 4))), some (.inl z), some (.inr (.inl l)), none, some (.inr (.inr (some 5))), some (.inl vk), some (.inl vi)] [] w Q := by
  intro f
  induction f with
  | zero =>
    intro i vi hi hvi hno
    refine wk_iload xd_e9f21233 rfl ?_
    refine wk_iload xd_4a96699e rfl ?_
    refine wk_icmp xd_43040b2e (t := 95) rfl (fun h65_0 => ?_) (fun h65_0 => ?_)
    · have h65_0 := aw_ge_t (a := ((i : Int) : Int)) (b := ((k : Int) : Int)) hvi hvk h65_0
      refine wk_iconst xd_acd409e5 ?_
      exact wk_ireturn xd_673c61ee xr_66a9b329 rfl (hQ _ (by rw [tx_find_no (fun q hq => hno q (by omega))]; decide))
    · have h65_0 := aw_ge_f (a := ((i : Int) : Int)) (b := ((k : Int) : Int)) hvi hvk h65_0
      exfalso
      omega
  | succ f ih =>
    intro i vi hi hvi hno
    refine wk_iload xd_e9f21233 rfl ?_
    refine wk_iload xd_4a96699e rfl ?_
    refine wk_icmp xd_43040b2e (t := 95) rfl (fun h65_1 => ?_) (fun h65_1 => ?_)
    · have h65_1 := aw_ge_t (a := ((i : Int) : Int)) (b := ((k : Int) : Int)) hvi hvk h65_1
      exfalso
      omega
    · have h65_1 := aw_ge_f (a := ((i : Int) : Int)) (b := ((k : Int) : Int)) hvi hvk h65_1
      refine wk_iload xd_53da98db rfl ?_
      refine wk_aload xd_a1034748 rfl ?_
      refine aw_alen xf_ca585044 xd_caa499a3 ?_
      refine wk_icmp xd_94235c81 (t := 95) rfl (fun h73_2 => ?_) (fun h73_2 => ?_)
      · have h73_2 := aw_ge_t (a := ((i : Int) : Int)) (b := (6 : Int)) hvi (show ((Int32.ofNat 6)).toInt = 6 from by decide) h73_2
        exfalso
        omega
      · have h73_2 := aw_ge_f (a := ((i : Int) : Int)) (b := (6 : Int)) hvi (show ((Int32.ofNat 6)).toInt = 6 from by decide) h73_2
        refine wk_aload xd_573e428e rfl ?_
        refine wk_iload xd_44f2fc1b rfl ?_
        refine aw_laload (i := i) xf_db2b8c0f hvi (by omega) (by omega) xd_f31fda0b ?_
        refine aw_lload_n xd_0a449600 rfl ?_
        refine aw_lcmp xd_510de6e3 ?_
        refine wk_if xd_cd3df622 (t := 89) rfl (fun h83_3 => ?_) (fun h83_3 => ?_)
        · have h83_3 := aw_ne_t (a := ((lg_cmp (w.2 5 i) l).toInt : Int)) (b := (0 : Int)) rfl hb_z h83_3
          have hne : nm (0 + i) ≠ c := fun e => h83_3 (by rw [(hN i (by omega)).1, hl, e]; exact tx_lg0 _)
          refine aw_iinc (a := ((i : Int) : Int)) (b := (1 : Int)) (e := ((i : Int) + 1 : Int)) xd_caa5f968 (by rw [xm_1815dc89]; rfl) rfl rfl hvi (show ((Int32.ofInt 1)).toInt = 1 from by decide) (by omega) (by omega) (by omega) (fun v5_ p5_ => ?_)
          refine wk_goto xd_ebfd04e7 (t := 61) rfl ?_
          refine ih (i + 1) _ (by omega) (by omega) (fun q hq => ?_)
          by_cases e : q = i
          · rw [e]
            exact hne
          · exact hno q (by omega)
        · have h83_3 := aw_ne_f (a := ((lg_cmp (w.2 5 i) l).toInt : Int)) (b := (0 : Int)) rfl hb_z h83_3
          have hq := h83_3
          refine wk_iload xd_4ba7e8eb rfl ?_
          have heq : nm (0 + i) = c := tx_i64 (by have := (hN i (by omega)).2; omega) (by omega) (by have e9 := tx_lg1 hq; rw [(hN i (by omega)).1, hl] at e9; exact e9)
          exact wk_ireturn xd_a3db099e xr_66a9b329 rfl (hQ _ (by rw [tx_find_at heq (by omega) hno]; exact hvi))
theorem no_4_0 {w : cm_W} {nm : Nat → Nat} {k c : Nat} {l : Int64} {z : Int32} (hz : z.toInt = 0) (hk : (w.1 4 3).toInt = (k : Int)) (hN : rd_N w 5 0 k nm) (hkl : k ≤ 6) (hl : l = Int64.ofNat c) (hc : c < 32 ^ 7) : ∃ x, cm_C 1 232 [.inr (.inr (some 4)), .inl z, .inr (.inl l)] w (some (.inl x), w) ∧ x.toInt = tx_find nm 0 k c := by
  have h : ∃ o, cm_C (0 + 1) 232 [.inr (.inr (some 4)), .inl z, .inr (.inl l)] w o ∧ (fun o : cm_O => ∃ x, o = (some (.inl x), w) ∧ x.toInt = tx_find nm 0 k c) o := by
    refine wk_entry (by rw [xm_1815dc89]; exact Nat.le_of_ble_eq_true rfl) ?_
    rw [show cm_ent 232 [.inr (.inr (some 4)), .inl z, .inr (.inl l)] = [some (.inr (.inr (some 4))), some (.inl z), some (.inr (.inl l)), none, none, none, none] from by unfold cm_ent; rw [xm_1815dc89]; rfl]
    refine wk_iload_n xd_fb9874dc rfl ?_
    refine wk_if xd_46f7ae7e (t := 11) rfl (fun h => absurd (aw_ne_t hz hb_z h) (by omega)) (fun _ => ?_)
    refine wk_aload_n xd_9ca72f92 rfl ?_
    refine wk_getR xf_d0236983 xd_fb87775c ?_
    refine wk_goto xd_78dbf1cc (t := 27) rfl ?_
    refine aw_astore xd_a410a403 (by rw [xm_1815dc89]; rfl) rfl ?_
    refine wk_iload_n xd_5b44ec54 rfl ?_
    refine wk_if xd_a576db8e (t := 40) rfl (fun h => absurd (aw_ne_t hz hb_z h) (by omega)) (fun _ => ?_)
    refine wk_aload_n xd_502de361 rfl ?_
    refine wk_getI xf_b6da1005 xd_923a073d ?_
    refine wk_goto xd_359d986a (t := 56) rfl ?_
    refine wk_istore xd_feed0723 (by rw [xm_1815dc89]; rfl) rfl ?_
    refine wk_iconst xd_bd529a63 ?_
    refine wk_istore xd_65d765b3 (by rw [xm_1815dc89]; rfl) rfl ?_
    exact no_4_0_lp hN hkl hl hc hk _ (fun x hx => ⟨x, rfl, hx⟩) k 0 _ (by omega) (by decide) (fun q hq => absurd hq (Nat.not_lt_zero q))
  obtain ⟨o, hC, x, rfl, a⟩ := h
  exact ⟨x, hC, a⟩
theorem no_4_1_lp {w : cm_W} {nm : Nat → Nat} {k c : Nat} {l : Int64} {z vk : Int32} (hN : rd_N w 6 6 k nm) (hkl : k ≤ 4) (hl : l = Int64.ofNat c) (hc : c < 32 ^ 7) (hvk : vk.toInt = (k : Int)) (Q : cm_O → Prop) (hQ : ∀ x : Int32, x.toInt = tx_find nm 6 k c → Q (some (.inl x), w)) : ∀ (f i : Nat) (vi : Int32), f + i = k → vi.toInt = (i : Int) → (∀ q, q < i → nm (6 + q) ≠ c) → cm_X (cm_C 0) 232 61 [some (.inr (.inr (some 4))), some (.inl z), some (.inr (.inl l)), none, some (.inr (.inr (some 6))), some (.inl vk), some (.inl vi)] [] w Q := by
  intro f
  induction f with
  | zero =>
    intro i vi hi hvi hno
    refine wk_iload xd_e9f21233 rfl ?_
    refine wk_iload xd_4a96699e rfl ?_
    refine wk_icmp xd_43040b2e (t := 95) rfl (fun h65_0 => ?_) (fun h65_0 => ?_)
    · have h65_0 := aw_ge_t (a := ((i : Int) : Int)) (b := ((k : Int) : Int)) hvi hvk h65_0
      refine wk_iconst xd_acd409e5 ?_
      exact wk_ireturn xd_673c61ee xr_66a9b329 rfl (hQ _ (by rw [tx_find_no (fun q hq => hno q (by omega))]; decide))
    · have h65_0 := aw_ge_f (a := ((i : Int) : Int)) (b := ((k : Int) : Int)) hvi hvk h65_0
      exfalso
      omega
  | succ f ih =>
    intro i vi hi hvi hno
    refine wk_iload xd_e9f21233 rfl ?_
    refine wk_iload xd_4a96699e rfl ?_
    refine wk_icmp xd_43040b2e (t := 95) rfl (fun h65_1 => ?_) (fun h65_1 => ?_)
    · have h65_1 := aw_ge_t (a := ((i : Int) : Int)) (b := ((k : Int) : Int)) hvi hvk h65_1
      exfalso
      omega
    · have h65_1 := aw_ge_f (a := ((i : Int) : Int)) (b := ((k : Int) : Int)) hvi hvk h65_1
      refine wk_iload xd_53da98db rfl ?_
      refine wk_aload xd_a1034748 rfl ?_
      refine aw_alen xf_634aec3a xd_caa499a3 ?_
      refine wk_icmp xd_94235c81 (t := 95) rfl (fun h73_2 => ?_) (fun h73_2 => ?_)
      · have h73_2 := aw_ge_t (a := ((i : Int) : Int)) (b := (4 : Int)) hvi (show ((Int32.ofNat 4)).toInt = 4 from by decide) h73_2
        exfalso
        omega
      · have h73_2 := aw_ge_f (a := ((i : Int) : Int)) (b := (4 : Int)) hvi (show ((Int32.ofNat 4)).toInt = 4 from by decide) h73_2
        refine wk_aload xd_573e428e rfl ?_
        refine wk_iload xd_44f2fc1b rfl ?_
        refine aw_laload (i := i) xf_72393071 hvi (by omega) (by omega) xd_f31fda0b ?_
        refine aw_lload_n xd_0a449600 rfl ?_
        refine aw_lcmp xd_510de6e3 ?_
        refine wk_if xd_cd3df622 (t := 89) rfl (fun h83_3 => ?_) (fun h83_3 => ?_)
        · have h83_3 := aw_ne_t (a := ((lg_cmp (w.2 6 i) l).toInt : Int)) (b := (0 : Int)) rfl hb_z h83_3
          have hne : nm (6 + i) ≠ c := fun e => h83_3 (by rw [(hN i (by omega)).1, hl, e]; exact tx_lg0 _)
          refine aw_iinc (a := ((i : Int) : Int)) (b := (1 : Int)) (e := ((i : Int) + 1 : Int)) xd_caa5f968 (by rw [xm_1815dc89]; rfl) rfl rfl hvi (show ((Int32.ofInt 1)).toInt = 1 from by decide) (by omega) (by omega) (by omega) (fun v5_ p5_ => ?_)
          refine wk_goto xd_ebfd04e7 (t := 61) rfl ?_
          refine ih (i + 1) _ (by omega) (by omega) (fun q hq => ?_)
          by_cases e : q = i
          · rw [e]
            exact hne
          · exact hno q (by omega)
        · have h83_3 := aw_ne_f (a := ((lg_cmp (w.2 6 i) l).toInt : Int)) (b := (0 : Int)) rfl hb_z h83_3
          have hq := h83_3
          refine wk_iload xd_4ba7e8eb rfl ?_
          have heq : nm (6 + i) = c := tx_i64 (by have := (hN i (by omega)).2; omega) (by omega) (by have e9 := tx_lg1 hq; rw [(hN i (by omega)).1, hl] at e9; exact e9)
          exact wk_ireturn xd_a3db099e xr_66a9b329 rfl (hQ _ (by rw [tx_find_at heq (by omega) hno]; exact hvi))
theorem no_4_1 {w : cm_W} {nm : Nat → Nat} {k c : Nat} {l : Int64} {z : Int32} (hz : z.toInt = 1) (hk : (w.1 4 4).toInt = (k : Int)) (hN : rd_N w 6 6 k nm) (hkl : k ≤ 4) (hl : l = Int64.ofNat c) (hc : c < 32 ^ 7) : ∃ x, cm_C 1 232 [.inr (.inr (some 4)), .inl z, .inr (.inl l)] w (some (.inl x), w) ∧ x.toInt = tx_find nm 6 k c := by
  have h : ∃ o, cm_C (0 + 1) 232 [.inr (.inr (some 4)), .inl z, .inr (.inl l)] w o ∧ (fun o : cm_O => ∃ x, o = (some (.inl x), w) ∧ x.toInt = tx_find nm 6 k c) o := by
    refine wk_entry (by rw [xm_1815dc89]; exact Nat.le_of_ble_eq_true rfl) ?_
    rw [show cm_ent 232 [.inr (.inr (some 4)), .inl z, .inr (.inl l)] = [some (.inr (.inr (some 4))), some (.inl z), some (.inr (.inl l)), none, none, none, none] from by unfold cm_ent; rw [xm_1815dc89]; rfl]
    refine wk_iload_n xd_fb9874dc rfl ?_
    refine wk_if xd_46f7ae7e (t := 11) rfl (fun _ => ?_) (fun h => absurd (aw_ne_f hz hb_z h) (by omega))
    refine wk_iload_n xd_03e3065a rfl ?_
    refine wk_iconst xd_177dfdc0 ?_
    refine wk_icmp xd_55b51b8d (t := 23) rfl (fun h => absurd (aw_ne_t hz (show ((Int32.ofInt 1)).toInt = 1 from by decide) h) (by omega)) (fun _ => ?_)
    refine wk_aload_n xd_12396429 rfl ?_
    refine wk_getR xf_30355f9c xd_d848fba8 ?_
    refine wk_goto xd_24d4d6ab (t := 27) rfl ?_
    refine aw_astore xd_a410a403 (by rw [xm_1815dc89]; rfl) rfl ?_
    refine wk_iload_n xd_5b44ec54 rfl ?_
    refine wk_if xd_a576db8e (t := 40) rfl (fun _ => ?_) (fun h => absurd (aw_ne_f hz hb_z h) (by omega))
    refine wk_iload_n xd_70b317f6 rfl ?_
    refine wk_iconst xd_b52a1bc7 ?_
    refine wk_icmp xd_60695d65 (t := 52) rfl (fun h => absurd (aw_ne_t hz (show ((Int32.ofInt 1)).toInt = 1 from by decide) h) (by omega)) (fun _ => ?_)
    refine wk_aload_n xd_8cffa66c rfl ?_
    refine wk_getI xf_31cba1bc xd_68bf8656 ?_
    refine wk_goto xd_2a553e99 (t := 56) rfl ?_
    refine wk_istore xd_feed0723 (by rw [xm_1815dc89]; rfl) rfl ?_
    refine wk_iconst xd_bd529a63 ?_
    refine wk_istore xd_65d765b3 (by rw [xm_1815dc89]; rfl) rfl ?_
    exact no_4_1_lp hN hkl hl hc hk _ (fun x hx => ⟨x, rfl, hx⟩) k 0 _ (by omega) (by decide) (fun q hq => absurd hq (Nat.not_lt_zero q))
  obtain ⟨o, hC, x, rfl, a⟩ := h
  exact ⟨x, hC, a⟩
theorem no_4_2_lp {w : cm_W} {nm : Nat → Nat} {k c : Nat} {l : Int64} {z vk : Int32} (hN : rd_N w 7 10 k nm) (hkl : k ≤ 6) (hl : l = Int64.ofNat c) (hc : c < 32 ^ 7) (hvk : vk.toInt = (k : Int)) (Q : cm_O → Prop) (hQ : ∀ x : Int32, x.toInt = tx_find nm 10 k c → Q (some (.inl x), w)) : ∀ (f i : Nat) (vi : Int32), f + i = k → vi.toInt = (i : Int) → (∀ q, q < i → nm (10 + q) ≠ c) → cm_X (cm_C 0) 232 61 [some (.inr (.inr (some 4))), some (.inl z), some (.inr (.inl l)), none, some (.inr (.inr (some 7))), some (.inl vk), some (.inl vi)] [] w Q := by
  intro f
  induction f with
  | zero =>
    intro i vi hi hvi hno
    refine wk_iload xd_e9f21233 rfl ?_
    refine wk_iload xd_4a96699e rfl ?_
    refine wk_icmp xd_43040b2e (t := 95) rfl (fun h65_0 => ?_) (fun h65_0 => ?_)
    · have h65_0 := aw_ge_t (a := ((i : Int) : Int)) (b := ((k : Int) : Int)) hvi hvk h65_0
      refine wk_iconst xd_acd409e5 ?_
      exact wk_ireturn xd_673c61ee xr_66a9b329 rfl (hQ _ (by rw [tx_find_no (fun q hq => hno q (by omega))]; decide))
    · have h65_0 := aw_ge_f (a := ((i : Int) : Int)) (b := ((k : Int) : Int)) hvi hvk h65_0
      exfalso
      omega
  | succ f ih =>
    intro i vi hi hvi hno
    refine wk_iload xd_e9f21233 rfl ?_
    refine wk_iload xd_4a96699e rfl ?_
    refine wk_icmp xd_43040b2e (t := 95) rfl (fun h65_1 => ?_) (fun h65_1 => ?_)
    · have h65_1 := aw_ge_t (a := ((i : Int) : Int)) (b := ((k : Int) : Int)) hvi hvk h65_1
      exfalso
      omega
    · have h65_1 := aw_ge_f (a := ((i : Int) : Int)) (b := ((k : Int) : Int)) hvi hvk h65_1
      refine wk_iload xd_53da98db rfl ?_
      refine wk_aload xd_a1034748 rfl ?_
      refine aw_alen xf_cead8079 xd_caa499a3 ?_
      refine wk_icmp xd_94235c81 (t := 95) rfl (fun h73_2 => ?_) (fun h73_2 => ?_)
      · have h73_2 := aw_ge_t (a := ((i : Int) : Int)) (b := (6 : Int)) hvi (show ((Int32.ofNat 6)).toInt = 6 from by decide) h73_2
        exfalso
        omega
      · have h73_2 := aw_ge_f (a := ((i : Int) : Int)) (b := (6 : Int)) hvi (show ((Int32.ofNat 6)).toInt = 6 from by decide) h73_2
        refine wk_aload xd_573e428e rfl ?_
        refine wk_iload xd_44f2fc1b rfl ?_
        refine aw_laload (i := i) xf_dfde5c32 hvi (by omega) (by omega) xd_f31fda0b ?_
        refine aw_lload_n xd_0a449600 rfl ?_
        refine aw_lcmp xd_510de6e3 ?_
        refine wk_if xd_cd3df622 (t := 89) rfl (fun h83_3 => ?_) (fun h83_3 => ?_)
        · have h83_3 := aw_ne_t (a := ((lg_cmp (w.2 7 i) l).toInt : Int)) (b := (0 : Int)) rfl hb_z h83_3
          have hne : nm (10 + i) ≠ c := fun e => h83_3 (by rw [(hN i (by omega)).1, hl, e]; exact tx_lg0 _)
          refine aw_iinc (a := ((i : Int) : Int)) (b := (1 : Int)) (e := ((i : Int) + 1 : Int)) xd_caa5f968 (by rw [xm_1815dc89]; rfl) rfl rfl hvi (show ((Int32.ofInt 1)).toInt = 1 from by decide) (by omega) (by omega) (by omega) (fun v5_ p5_ => ?_)
          refine wk_goto xd_ebfd04e7 (t := 61) rfl ?_
          refine ih (i + 1) _ (by omega) (by omega) (fun q hq => ?_)
          by_cases e : q = i
          · rw [e]
            exact hne
          · exact hno q (by omega)
        · have h83_3 := aw_ne_f (a := ((lg_cmp (w.2 7 i) l).toInt : Int)) (b := (0 : Int)) rfl hb_z h83_3
          have hq := h83_3
          refine wk_iload xd_4ba7e8eb rfl ?_
          have heq : nm (10 + i) = c := tx_i64 (by have := (hN i (by omega)).2; omega) (by omega) (by have e9 := tx_lg1 hq; rw [(hN i (by omega)).1, hl] at e9; exact e9)
          exact wk_ireturn xd_a3db099e xr_66a9b329 rfl (hQ _ (by rw [tx_find_at heq (by omega) hno]; exact hvi))
theorem no_4_2 {w : cm_W} {nm : Nat → Nat} {k c : Nat} {l : Int64} {z : Int32} (hz : z.toInt = 2) (hk : (w.1 4 5).toInt = (k : Int)) (hN : rd_N w 7 10 k nm) (hkl : k ≤ 6) (hl : l = Int64.ofNat c) (hc : c < 32 ^ 7) : ∃ x, cm_C 1 232 [.inr (.inr (some 4)), .inl z, .inr (.inl l)] w (some (.inl x), w) ∧ x.toInt = tx_find nm 10 k c := by
  have h : ∃ o, cm_C (0 + 1) 232 [.inr (.inr (some 4)), .inl z, .inr (.inl l)] w o ∧ (fun o : cm_O => ∃ x, o = (some (.inl x), w) ∧ x.toInt = tx_find nm 10 k c) o := by
    refine wk_entry (by rw [xm_1815dc89]; exact Nat.le_of_ble_eq_true rfl) ?_
    rw [show cm_ent 232 [.inr (.inr (some 4)), .inl z, .inr (.inl l)] = [some (.inr (.inr (some 4))), some (.inl z), some (.inr (.inl l)), none, none, none, none] from by unfold cm_ent; rw [xm_1815dc89]; rfl]
    refine wk_iload_n xd_fb9874dc rfl ?_
    refine wk_if xd_46f7ae7e (t := 11) rfl (fun _ => ?_) (fun h => absurd (aw_ne_f hz hb_z h) (by omega))
    refine wk_iload_n xd_03e3065a rfl ?_
    refine wk_iconst xd_177dfdc0 ?_
    refine wk_icmp xd_55b51b8d (t := 23) rfl (fun _ => ?_) (fun h => absurd (aw_ne_f hz (show ((Int32.ofInt 1)).toInt = 1 from by decide) h) (by omega))
    refine wk_aload_n xd_d1088646 rfl ?_
    refine wk_getR xf_0aa70e13 xd_eeb6e3bc ?_
    refine aw_astore xd_a410a403 (by rw [xm_1815dc89]; rfl) rfl ?_
    refine wk_iload_n xd_5b44ec54 rfl ?_
    refine wk_if xd_a576db8e (t := 40) rfl (fun _ => ?_) (fun h => absurd (aw_ne_f hz hb_z h) (by omega))
    refine wk_iload_n xd_70b317f6 rfl ?_
    refine wk_iconst xd_b52a1bc7 ?_
    refine wk_icmp xd_60695d65 (t := 52) rfl (fun _ => ?_) (fun h => absurd (aw_ne_f hz (show ((Int32.ofInt 1)).toInt = 1 from by decide) h) (by omega))
    refine wk_aload_n xd_7b635be5 rfl ?_
    refine wk_getI xf_69f3bad9 xd_29043e85 ?_
    refine wk_istore xd_feed0723 (by rw [xm_1815dc89]; rfl) rfl ?_
    refine wk_iconst xd_bd529a63 ?_
    refine wk_istore xd_65d765b3 (by rw [xm_1815dc89]; rfl) rfl ?_
    exact no_4_2_lp hN hkl hl hc hk _ (fun x hx => ⟨x, rfl, hx⟩) k 0 _ (by omega) (by decide) (fun q hq => absurd hq (Nat.not_lt_zero q))
  obtain ⟨o, hC, x, rfl, a⟩ := h
  exact ⟨x, hC, a⟩
/-- a name: a word that is none of the taken ones -/
abbrev tx_isN (t : Nat × Nat × Nat × Int × Nat) : Prop := t.1 = 1 ∧ ∀ k, k < 22 → tx_rw.getD k 0 ≠ t.2.2.2.2
theorem rd_C_word {w : cm_W} {t : Nat × Nat × Nat × Int × Nat} (h : rd_C w t) : (tx_isN t ∧ (w.1 2 5).toInt = 2 ∧ (w.1 2 8).toInt = -1 ∧ (w.1 2 4).toInt = t.2.2.1 ∧ w.2 2 7 = Int64.ofNat t.2.2.2.2 ∧ t.2.2.2.2 < 32 ^ 7) ∨ (¬ tx_isN t ∧ ¬ ((w.1 2 5).toInt = 2 ∧ (w.1 2 8).toInt = -1)) := by
  obtain ⟨_, h⟩ := h
  rcases h with ⟨a, b, _⟩ | ⟨a, b, c, d, e, f⟩ | ⟨a, b, _⟩ | ⟨a, b, _⟩ | ⟨a, _, b⟩
  · exact .inr ⟨fun h => by have := h.1; omega, by omega⟩
  · rcases f with ⟨f1, f2⟩ | ⟨k, f1, f2, f3⟩
    · exact .inl ⟨⟨a, f2⟩, b, f1, c, d, e⟩
    · exact .inr ⟨fun h => h.2 k f1 f3, by omega⟩
  · exact .inr ⟨fun h => by have := h.1; omega, by omega⟩
  · exact .inr ⟨fun h => by have := h.1; omega, by omega⟩
  · exact .inr ⟨fun h => by have := h.1; omega, by omega⟩
theorem in_ok {w : cm_W} : ∃ x, cm_C 1 185 [.inr (.inr (some 2))] w (some (.inl x), w) ∧ ((x.toInt = 1 ∧ (w.1 2 5).toInt = 2 ∧ (w.1 2 8).toInt = -1) ∨ (x.toInt = 0 ∧ ¬ ((w.1 2 5).toInt = 2 ∧ (w.1 2 8).toInt = -1))) := by
  have h : ∃ o, cm_C (0 + 1) 185 [.inr (.inr (some 2))] w o ∧ (fun o : cm_O => ∃ x, o = (some (.inl x), w) ∧ ((x.toInt = 1 ∧ (w.1 2 5).toInt = 2 ∧ (w.1 2 8).toInt = -1) ∨ (x.toInt = 0 ∧ ¬ ((w.1 2 5).toInt = 2 ∧ (w.1 2 8).toInt = -1)))) o := by
    refine wk_entry (by rw [xm_18794ff2]; exact Nat.le_of_ble_eq_true rfl) ?_
    rw [show cm_ent 185 [.inr (.inr (some 2))] = [some (.inr (.inr (some 2)))] from by unfold cm_ent; rw [xm_18794ff2]; rfl]
    refine wk_aload_n xd_37f00949 rfl ?_
    refine wk_getI xf_d2280798 xd_6b235c2a ?_
    refine wk_iconst xd_f66247a2 ?_
    refine wk_icmp xd_bba6b146 (t := 20) rfl (fun h5_0 => ?_) (fun h5_0 => ?_)
    · have h5_0 := aw_ne_t (a := ((w.1 2 5).toInt : Int)) (b := (2 : Int)) rfl (show ((Int32.ofInt 2)).toInt = 2 from by decide) h5_0
      refine wk_iconst xd_d9a3a385 ?_
      exact wk_ireturn xd_545a7dd9 xr_a90a43a5 wk_z0 ⟨_, rfl, .inr ⟨by decide, by omega⟩⟩
    · have h5_0 := aw_ne_f (a := ((w.1 2 5).toInt : Int)) (b := (2 : Int)) rfl (show ((Int32.ofInt 2)).toInt = 2 from by decide) h5_0
      refine wk_aload_n xd_37494a6f rfl ?_
      refine wk_getI xf_a375e245 xd_8fc840ed ?_
      refine wk_iconst xd_aa34d326 ?_
      refine wk_icmp xd_e6e4997a (t := 20) rfl (fun h13_1 => ?_) (fun h13_1 => ?_)
      · have h13_1 := aw_ne_t (a := ((w.1 2 8).toInt : Int)) (b := ((-1) : Int)) rfl (show ((Int32.ofInt (-1))).toInt = (-1) from by decide) h13_1
        refine wk_iconst xd_d9a3a385 ?_
        exact wk_ireturn xd_545a7dd9 xr_a90a43a5 wk_z0 ⟨_, rfl, .inr ⟨by decide, by omega⟩⟩
      · have h13_1 := aw_ne_f (a := ((w.1 2 8).toInt : Int)) (b := ((-1) : Int)) rfl (show ((Int32.ofInt (-1))).toInt = (-1) from by decide) h13_1
        refine wk_iconst xd_e0d7e988 ?_
        refine wk_goto xd_23877760 (t := 21) rfl ?_
        exact wk_ireturn xd_545a7dd9 xr_a90a43a5 wk_z1 ⟨_, rfl, .inl ⟨by decide, by omega⟩⟩
  obtain ⟨o, hC, x, rfl, a⟩ := h
  exact ⟨x, hC, a⟩
theorem tn_bad {w : cm_W} {a b : Int32} (hbad : (w.1 2 11).toInt ≠ 0) : cm_C 3 189 [.inr (.inr (some 2)), .inl a, .inl b] w (some (.inl (Int32.ofInt (-1))), w) := by
  have h : ∃ o, cm_C (2 + 1) 189 [.inr (.inr (some 2)), .inl a, .inl b] w o ∧ (fun o : cm_O => o = (some (.inl (Int32.ofInt (-1))), w)) o := by
    refine wk_entry (by rw [xm_ade3567c]; exact Nat.le_of_ble_eq_true rfl) ?_
    rw [show cm_ent 189 [.inr (.inr (some 2)), .inl a, .inl b] = [some (.inr (.inr (some 2))), some (.inl a), some (.inl b), none] from by unfold cm_ent; rw [xm_ade3567c]; rfl]
    refine wk_aload_n xd_484db22b rfl ?_
    refine wk_getI xf_47306fc9 xd_605b40b6 ?_
    refine wk_iconst xd_1cb4b75e ?_
    refine wk_icmp xd_3f822996 (t := 17) rfl (fun h5_0 => ?_) (fun h5_0 => ?_)
    · have h5_0 := aw_eq_t (a := ((w.1 2 5).toInt : Int)) (b := (3 : Int)) rfl (show ((Int32.ofInt 3)).toInt = 3 from by decide) h5_0
      refine wk_aload_n xd_5225f117 rfl ?_
      refine wk_getI xf_98967174 xd_3751656f ?_
      refine wk_iload_n xd_8092d098 rfl ?_
      refine wk_icmp xd_22f04202 (t := 33) rfl (fun h22_1 => ?_) (fun h22_1 => ?_)
      · have h22_1 := aw_lt_t (a := ((w.1 2 9).toInt : Int)) (b := ((a).toInt : Int)) rfl rfl h22_1
        refine wk_aload_n xd_8b429c8b rfl ?_
        refine wk_iconst xd_1b0c3253 ?_
        refine wk_call (kd := 0) (i := 80) xd_6858d3b4 rfl (wk_cal (as := [.inr (.inr (some 2)), .inl (Int32.ofInt 2)]) (t := []) xl_726d40f2 rfl xn_b5464d7d xc_49a83f99 rfl rfl xv_780065b9 rfl) (cm_C_mono (by omega) (rf_old (w := w) (k := (Int32.ofInt 2)) rfl hbad)) ?_
        refine wk_pop xd_3cfdab2b ?_
        refine wk_aload_n xd_666d0c44 rfl ?_
        obtain ⟨g40, hCg40, hg40⟩ := ig_ok (w := w)
        have eg40 : (w.1 2 11).toInt = ((w.1 2 11).toInt : Int) := rfl
        refine wk_call (kd := 0) (i := 87) xd_3f2cfabb rfl (wk_cal (as := [.inr (.inr (some 2))]) (t := []) xl_be386658 rfl xn_59a494c6 xc_7b6444b6 rfl rfl xv_433dc8e2 rfl) (cm_C_mono (by omega) hCg40) ?_
        refine wk_if xd_f8817d60 (t := 48) rfl (fun h43_2 => ?_) (fun h43_2 => ?_)
        · have h43_2 := aw_ne_t (a := ((g40).toInt : Int)) (b := (0 : Int)) rfl hb_z h43_2
          exfalso
          omega
        · have h43_2 := aw_ne_f (a := ((g40).toInt : Int)) (b := (0 : Int)) rfl hb_z h43_2
          refine wk_iconst xd_65b20ee7 ?_
          exact wk_ireturn xd_0720fbd3 xr_df255d1e rfl rfl
      · have h22_1 := aw_lt_f (a := ((w.1 2 9).toInt : Int)) (b := ((a).toInt : Int)) rfl rfl h22_1
        refine wk_aload_n xd_e7ad8bd6 rfl ?_
        refine wk_getI xf_98967174 xd_82d67786 ?_
        refine wk_iload_n xd_c78be96e rfl ?_
        refine wk_icmp xd_e7ae1253 (t := 39) rfl (fun h30_3 => ?_) (fun h30_3 => ?_)
        · have h30_3 := aw_le_t (a := ((w.1 2 9).toInt : Int)) (b := ((b).toInt : Int)) rfl rfl h30_3
          refine wk_aload_n xd_666d0c44 rfl ?_
          obtain ⟨g40, hCg40, hg40⟩ := ig_ok (w := w)
          have eg40 : (w.1 2 11).toInt = ((w.1 2 11).toInt : Int) := rfl
          refine wk_call (kd := 0) (i := 87) xd_3f2cfabb rfl (wk_cal (as := [.inr (.inr (some 2))]) (t := []) xl_be386658 rfl xn_59a494c6 xc_7b6444b6 rfl rfl xv_433dc8e2 rfl) (cm_C_mono (by omega) hCg40) ?_
          refine wk_if xd_f8817d60 (t := 48) rfl (fun h43_4 => ?_) (fun h43_4 => ?_)
          · have h43_4 := aw_ne_t (a := ((g40).toInt : Int)) (b := (0 : Int)) rfl hb_z h43_4
            exfalso
            omega
          · have h43_4 := aw_ne_f (a := ((g40).toInt : Int)) (b := (0 : Int)) rfl hb_z h43_4
            refine wk_iconst xd_65b20ee7 ?_
            exact wk_ireturn xd_0720fbd3 xr_df255d1e rfl rfl
        · have h30_3 := aw_le_f (a := ((w.1 2 9).toInt : Int)) (b := ((b).toInt : Int)) rfl rfl h30_3
          refine wk_aload_n xd_8b429c8b rfl ?_
          refine wk_iconst xd_1b0c3253 ?_
          refine wk_call (kd := 0) (i := 80) xd_6858d3b4 rfl (wk_cal (as := [.inr (.inr (some 2)), .inl (Int32.ofInt 2)]) (t := []) xl_726d40f2 rfl xn_b5464d7d xc_49a83f99 rfl rfl xv_780065b9 rfl) (cm_C_mono (by omega) (rf_old (w := w) (k := (Int32.ofInt 2)) rfl hbad)) ?_
          refine wk_pop xd_3cfdab2b ?_
          refine wk_aload_n xd_666d0c44 rfl ?_
          obtain ⟨g40, hCg40, hg40⟩ := ig_ok (w := w)
          have eg40 : (w.1 2 11).toInt = ((w.1 2 11).toInt : Int) := rfl
          refine wk_call (kd := 0) (i := 87) xd_3f2cfabb rfl (wk_cal (as := [.inr (.inr (some 2))]) (t := []) xl_be386658 rfl xn_59a494c6 xc_7b6444b6 rfl rfl xv_433dc8e2 rfl) (cm_C_mono (by omega) hCg40) ?_
          refine wk_if xd_f8817d60 (t := 48) rfl (fun h43_5 => ?_) (fun h43_5 => ?_)
          · have h43_5 := aw_ne_t (a := ((g40).toInt : Int)) (b := (0 : Int)) rfl hb_z h43_5
            exfalso
            omega
          · have h43_5 := aw_ne_f (a := ((g40).toInt : Int)) (b := (0 : Int)) rfl hb_z h43_5
            refine wk_iconst xd_65b20ee7 ?_
            exact wk_ireturn xd_0720fbd3 xr_df255d1e rfl rfl
    · have h5_0 := aw_eq_f (a := ((w.1 2 5).toInt : Int)) (b := (3 : Int)) rfl (show ((Int32.ofInt 3)).toInt = 3 from by decide) h5_0
      refine wk_aload_n xd_48f4f10d rfl ?_
      refine wk_iconst xd_94be35fe ?_
      refine wk_call (kd := 0) (i := 80) xd_b8746d3e rfl (wk_cal (as := [.inr (.inr (some 2)), .inl (Int32.ofInt 1)]) (t := []) xl_726d40f2 rfl xn_b5464d7d xc_49a83f99 rfl rfl xv_780065b9 rfl) (cm_C_mono (by omega) (rf_old (w := w) (k := (Int32.ofInt 1)) rfl hbad)) ?_
      refine wk_pop xd_8ca3d4b2 ?_
      refine wk_goto xd_2ebb84c5 (t := 39) rfl ?_
      refine wk_aload_n xd_666d0c44 rfl ?_
      obtain ⟨g40, hCg40, hg40⟩ := ig_ok (w := w)
      have eg40 : (w.1 2 11).toInt = ((w.1 2 11).toInt : Int) := rfl
      refine wk_call (kd := 0) (i := 87) xd_3f2cfabb rfl (wk_cal (as := [.inr (.inr (some 2))]) (t := []) xl_be386658 rfl xn_59a494c6 xc_7b6444b6 rfl rfl xv_433dc8e2 rfl) (cm_C_mono (by omega) hCg40) ?_
      refine wk_if xd_f8817d60 (t := 48) rfl (fun h43_6 => ?_) (fun h43_6 => ?_)
      · have h43_6 := aw_ne_t (a := ((g40).toInt : Int)) (b := (0 : Int)) rfl hb_z h43_6
        exfalso
        omega
      · have h43_6 := aw_ne_f (a := ((g40).toInt : Int)) (b := (0 : Int)) rfl hb_z h43_6
        refine wk_iconst xd_65b20ee7 ?_
        exact wk_ireturn xd_0720fbd3 xr_df255d1e rfl rfl
  obtain ⟨o, hC, rfl⟩ := h
  exact hC
theorem ts_ok {w : cm_W} {T : Nat → Int} {n m p : Nat} {k : Int32} {c : Int} (hk : k.toInt = c) (hL : rd_L w T n m p) (hg : (w.1 2 11).toInt = 0) : ∃ x w', cm_C 3 190 [.inr (.inr (some 2)), .inl k] w (some (.inl x), w') ∧ (((tx_tk T n m p).1 = 3 ∧ (tx_tk T n m p).2.2.2.1 = c ∧ x.toInt = 1 ∧ rd_L w' T n m (tx_tk T n m p).2.2.1 ∧ rd_S w w') ∨ (¬ ((tx_tk T n m p).1 = 3 ∧ (tx_tk T n m p).2.2.2.1 = c) ∧ x.toInt = 0 ∧ rd_B w w' 1 (tx_tk T n m p).2.1)) := by
  have h : ∃ o, cm_C (2 + 1) 190 [.inr (.inr (some 2)), .inl k] w o ∧ (fun o : cm_O => ∃ x w', o = (some (.inl x), w') ∧ (((tx_tk T n m p).1 = 3 ∧ (tx_tk T n m p).2.2.2.1 = c ∧ x.toInt = 1 ∧ rd_L w' T n m (tx_tk T n m p).2.2.1 ∧ rd_S w w') ∨ (¬ ((tx_tk T n m p).1 = 3 ∧ (tx_tk T n m p).2.2.2.1 = c) ∧ x.toInt = 0 ∧ rd_B w w' 1 (tx_tk T n m p).2.1))) o := by
    refine wk_entry (by rw [xm_82cc429d]; exact Nat.le_of_ble_eq_true rfl) ?_
    rw [show cm_ent 190 [.inr (.inr (some 2)), .inl k] = [some (.inr (.inr (some 2))), some (.inl k)] from by unfold cm_ent; rw [xm_82cc429d]; rfl]
    refine wk_aload_n xd_94f52241 rfl ?_
    refine wk_iload_n xd_68e53248 rfl ?_
    obtain ⟨xs, hCxs, hxs⟩ := is_ok (w := w) (c := c) hk hL.2.1
    refine wk_call (kd := 0) (i := 84) xd_8e6bd859 rfl (wk_cal (as := [.inr (.inr (some 2)), .inl k]) (t := []) xl_ae872da2 rfl xn_f2e637ad xc_3770e809 rfl rfl xv_6b285cca rfl) (cm_C_mono (by omega) hCxs) ?_
    refine wk_if xd_9156503e (t := 14) rfl (fun h5_0 => ?_) (fun h5_0 => ?_)
    · have h5_0 := aw_ne_t (a := ((xs).toInt : Int)) (b := (0 : Int)) rfl hb_z h5_0
      have h3 : (tx_tk T n m p).1 = 3 := by omega
      have hnn := (tx_tk_b (m := m) (T := T) hL.2.2 ⟨by omega, by omega⟩).2.1
      have hat : (w.1 2 4).toInt = (tx_tk T n m p).2.2.1 := by
        rcases rd_C_sign hL.2.1 with ⟨_, _, a, _⟩ | ⟨a, _⟩
        · exact a
        · exact absurd h3 a
      refine wk_aload_n xd_897bf8fc rfl ?_
      obtain ⟨w15_, hCw15_, hSw15_, hRw15_⟩ := cn_ok (w := w) (p := (tx_tk T n m p).2.2.1) hL.1 hat hnn
      refine wk_call (kd := 0) (i := 55) xd_159657b7 rfl (wk_cal (as := [.inr (.inr (some 2))]) (t := []) xl_9cb71ba1 rfl xn_568f4fa7 xc_1d38a579 rfl rfl xv_65cfb41b rfl) (cm_C_mono (by omega) hCw15_) ?_
      refine wk_iconst xd_8860be00 ?_
      exact wk_ireturn xd_f1fba58d xr_b2f619c8 wk_z1 ⟨_, _, rfl, .inl ⟨h3, by omega, by decide, ⟨rd_T_S hL.1 hSw15_, hRw15_, hnn⟩, hSw15_⟩⟩
    · have h5_0 := aw_ne_f (a := ((xs).toInt : Int)) (b := (0 : Int)) rfl hb_z h5_0
      refine wk_aload_n xd_944c6167 rfl ?_
      refine wk_iconst xd_fa2390d0 ?_
      refine wk_call (kd := 0) (i := 80) xd_ac0ba431 rfl (wk_cal (as := [.inr (.inr (some 2)), .inl (Int32.ofInt 1)]) (t := []) xl_fa6feb01 rfl xn_b5464d7d xc_49a83f99 rfl rfl xv_780065b9 rfl) (cm_C_mono (by omega) (rf_new (w := w) (k := (Int32.ofInt 1)) hg)) ?_
      exact wk_ireturn xd_30cdad86 xr_b2f619c8 wk_z0 ⟨_, _, rfl, .inr ⟨by omega, by decide, rf_B (by decide) hL.2.1.1⟩⟩
  obtain ⟨o, hC, x, w', rfl, a⟩ := h
  exact ⟨x, w', hC, a⟩
theorem rd_C_end {w : cm_W} {t : Nat × Nat × Nat × Int × Nat} (h : rd_C w t) : (t.1 = 0 ∧ (w.1 2 5).toInt = 0 ∧ (w.1 2 2).toInt ≤ (w.1 2 3).toInt) ∨ (t.1 ≠ 0 ∧ ((w.1 2 5).toInt ≠ 0 ∨ (w.1 2 3).toInt < (w.1 2 2).toInt)) := by
  obtain ⟨_, h⟩ := h
  rcases h with ⟨a, b, _, c⟩ | ⟨a, b, _⟩ | ⟨a, b, _⟩ | ⟨a, b, _⟩ | ⟨a, _, b⟩
  · exact .inl ⟨a, b, c⟩
  · exact .inr ⟨by omega, by omega⟩
  · exact .inr ⟨by omega, by omega⟩
  · exact .inr ⟨by omega, by omega⟩
  · exact .inr ⟨by omega, by omega⟩
theorem cl_ok {w : cm_W} {t : Nat × Nat × Nat × Int × Nat} (hC0 : rd_C w t) (hg : (w.1 2 11).toInt = 0) : ∃ x w', cm_C 2 59 [.inr (.inr (some 2))] w (some (.inl x), w') ∧ ((t.1 = 0 ∧ x.toInt = 1 ∧ w' = w) ∨ (t.1 ≠ 0 ∧ x.toInt = 0 ∧ rd_B w w' 1 t.2.1)) := by
  have hR := rd_C_end hC0
  have h : ∃ o, cm_C (1 + 1) 59 [.inr (.inr (some 2))] w o ∧ (fun o : cm_O => ∃ x w', o = (some (.inl x), w') ∧ ((t.1 = 0 ∧ x.toInt = 1 ∧ w' = w) ∨ (t.1 ≠ 0 ∧ x.toInt = 0 ∧ rd_B w w' 1 t.2.1))) o := by
    refine wk_entry (by rw [xm_81764506]; exact Nat.le_of_ble_eq_true rfl) ?_
    rw [show cm_ent 59 [.inr (.inr (some 2))] = [some (.inr (.inr (some 2)))] from by unfold cm_ent; rw [xm_81764506]; rfl]
    refine wk_aload_n xd_886112c2 rfl ?_
    refine wk_getI xf_d6f06778 xd_39316bd7 ?_
    refine wk_if xd_bd3fce2b (t := 18) rfl (fun h4_0 => ?_) (fun h4_0 => ?_)
    · have h4_0 := aw_ne_t (a := ((w.1 2 5).toInt : Int)) (b := (0 : Int)) rfl hb_z h4_0
      refine wk_aload_n xd_fd335ce3 rfl ?_
      refine wk_iconst xd_83dcea43 ?_
      refine wk_call (kd := 0) (i := 80) xd_e91394ff rfl (wk_cal (as := [.inr (.inr (some 2)), .inl (Int32.ofInt 1)]) (t := []) xl_1126b2d4 rfl xn_b5464d7d xc_49a83f99 rfl rfl xv_780065b9 rfl) (cm_C_mono (by omega) (rf_new (w := w) (k := (Int32.ofInt 1)) hg)) ?_
      refine wk_if xd_20b92d80 (t := 30) rfl (fun _ => ?_) (fun h => absurd (aw_eq_f (show ((Int32.ofInt 0)).toInt = 0 from by decide) hb_z h) (by omega))
      refine wk_iconst xd_fd4152da ?_
      exact wk_ireturn xd_0208842a xr_6137ceb7 wk_z0 ⟨_, _, rfl, .inr ⟨by omega, by decide, rf_B (by decide) hC0.1⟩⟩
    · have h4_0 := aw_ne_f (a := ((w.1 2 5).toInt : Int)) (b := (0 : Int)) rfl hb_z h4_0
      refine wk_aload_n xd_fed88a6c rfl ?_
      refine wk_getI xf_b051b2d1 xd_18ec3d6c ?_
      refine wk_aload_n xd_66f9f511 rfl ?_
      refine wk_getI xf_16a50c6e xd_c2c43f0e ?_
      refine wk_icmp xd_09c7b892 (t := 26) rfl (fun h15_2 => ?_) (fun h15_2 => ?_)
      · have h15_2 := aw_le_t (a := ((w.1 2 2).toInt : Int)) (b := ((w.1 2 3).toInt : Int)) rfl rfl h15_2
        refine wk_iconst xd_29a3cb3e ?_
        refine wk_goto xd_267ea628 (t := 31) rfl ?_
        exact wk_ireturn xd_0208842a xr_6137ceb7 wk_z1 ⟨_, _, rfl, .inl ⟨by omega, by decide, rfl⟩⟩
      · have h15_2 := aw_le_f (a := ((w.1 2 2).toInt : Int)) (b := ((w.1 2 3).toInt : Int)) rfl rfl h15_2
        refine wk_aload_n xd_fd335ce3 rfl ?_
        refine wk_iconst xd_83dcea43 ?_
        refine wk_call (kd := 0) (i := 80) xd_e91394ff rfl (wk_cal (as := [.inr (.inr (some 2)), .inl (Int32.ofInt 1)]) (t := []) xl_1126b2d4 rfl xn_b5464d7d xc_49a83f99 rfl rfl xv_780065b9 rfl) (cm_C_mono (by omega) (rf_new (w := w) (k := (Int32.ofInt 1)) hg)) ?_
        refine wk_if xd_20b92d80 (t := 30) rfl (fun _ => ?_) (fun h => absurd (aw_eq_f (show ((Int32.ofInt 0)).toInt = 0 from by decide) hb_z h) (by omega))
        refine wk_iconst xd_fd4152da ?_
        exact wk_ireturn xd_0208842a xr_6137ceb7 wk_z0 ⟨_, _, rfl, .inr ⟨by omega, by decide, rf_B (by decide) hC0.1⟩⟩
  obtain ⟨o, hC, x, w', rfl, a⟩ := h
  exact ⟨x, w', hC, a⟩

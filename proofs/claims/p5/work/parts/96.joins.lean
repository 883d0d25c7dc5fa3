/-! ## by hand: code, nots, joins of the reference (wip/p2/gen96.py) -/
section AW2
variable {C : Nat → List cm_V → cm_W → cm_O → Prop} {y pc : Nat} {lv : cm_L} {st : List cm_V} {w : cm_W} {Q : cm_O → Prop}
theorem aw_ldc2 {i v a b c : Nat} (hp : ia_pl (ia_cls y) i = some (9, v, a, b, c)) (hv : Nat.blt v 18446744073709551616 = true) (hd : decode (ia_code y) pc = .ok (.ldc2_w i, 3)) (k : cm_X C y (pc + 3) lv (.inr (.inl (Int64.ofNat v)) :: st) w Q) : cm_X C y pc lv st w Q := by
  refine cm_X_do (q := (pc + 3, lv, .inr (.inl (Int64.ofNat v)) :: st, w)) hd ?_ k
  show (match ia_pl (ia_cls y) i with
    | some (9, v, _, _, _) => ia_if (Nat.blt v 18446744073709551616) (cm_nx (Nat.add pc 3) lv (.inr (.inl (Int64.ofNat v)) :: st) w)
    | _ => none) = _
  rw [hp]
  exact cm_ifk hv rfl
theorem aw_dup_i {x : Int32} (hd : decode (ia_code y) pc = .ok (.dup, 1)) (k : cm_X C y (pc + 1) lv (.inl x :: .inl x :: st) w Q) : cm_X C y pc lv (.inl x :: st) w Q := cm_X_do (q := (pc + 1, lv, .inl x :: .inl x :: st, w)) hd rfl k
end AW2
/-- a program of c rows that ends with H values -/
def hPq (c : Nat) (f : Nat → Int32) (H : Nat) : Prop := ∃ ht : Nat → Nat, ht 0 = 0 ∧ (∀ i, i ≤ c → ht i ≤ i) ∧ (∀ i, i < c → jRow f i (ht i) (ht (i + 1))) ∧ ht c = H
theorem jRow_eq {f g : Nat → Int32} {i a b : Nat} (h1 : f (3 * i) = g (3 * i)) (h2 : f (3 * i + 2) = g (3 * i + 2)) (h : jRow f i a b) : jRow g i a b := by
  unfold jRow at h ⊢
  rw [← h1, ← h2]
  exact h
theorem hPq_push {c H H' : Nat} {f g : Nat → Int32} (h : hPq c f H) (hg : ∀ j, j < 3 * c → f j = g j) (hr : jRow g c H H') (hH : H' ≤ H + 1) : hPq (c + 1) g H' := by
  obtain ⟨ht, h0, h1, h2, h3⟩ := h
  refine ⟨fun i => if i ≤ c then ht i else H', ?_, fun i hi => ?_, fun i hi => ?_, ?_⟩
  · show (if 0 ≤ c then ht 0 else H') = 0
    rw [if_pos (Nat.zero_le c), h0]
  · show (if i ≤ c then ht i else H') ≤ i
    by_cases e : i ≤ c
    · rw [if_pos e]; exact h1 i e
    · rw [if_neg e]
      have := h1 c (Nat.le_refl c)
      omega
  · show jRow g i (if i ≤ c then ht i else H') (if i + 1 ≤ c then ht (i + 1) else H')
    rw [if_pos (show i ≤ c by omega)]
    by_cases e : i + 1 ≤ c
    · rw [if_pos e]
      exact jRow_eq (hg _ (by omega)) (hg _ (by omega)) (h2 i (by omega))
    · rw [if_neg e]
      have ei : i = c := by omega
      subst ei
      rw [h3]
      exact hr
  · show (if c + 1 ≤ c then ht (c + 1) else H') = H'
    rw [if_neg (by omega)]
theorem hPq_eq {c H : Nat} {f g : Nat → Int32} (h : hPq c f H) (hg : ∀ j, j < 3 * c → f j = g j) : hPq c g H := by
  obtain ⟨ht, h0, h1, h2, h3⟩ := h
  exact ⟨ht, h0, h1, fun i hi => jRow_eq (hg _ (by omega)) (hg _ (by omega)) (h2 i hi), h3⟩
/-- how many of the first t are joints -/
def hA (f : Nat → Int32) : Nat → Nat
  | 0 => 0
  | t + 1 => hA f t + (if 21 ≤ (f t).toInt ∧ (f t).toInt ≤ 22 then 1 else 0)
theorem hA_eq {f g : Nat → Int32} : ∀ t, (∀ j, j < t → f j = g j) → hA f t = hA g t
  | 0, _ => rfl
  | t + 1, h => by
    unfold hA
    rw [hA_eq t (fun j hj => h j (by omega)), h t (by omega)]
/-- a sentence on its way: codes, top, ones, isWhole, values -/
def hJs (w : cm_W) (c t n b H : Nat) : Prop := (w.1 184 39).toInt = (c : Int) ∧ (w.1 184 41).toInt = (t : Int) ∧ (w.1 184 40).toInt = (n : Int) ∧ (w.1 184 43).toInt = (b : Int) ∧ (∀ j, j < t → 20 ≤ (w.1 199 j).toInt ∧ (w.1 199 j).toInt ≤ 23) ∧ hPq c (fun j => w.1 188 j) H ∧ H = hA (fun j => w.1 199 j) t + b ∧ c + t + b ≤ 2 * n ∧ n ≤ 20
/-- what a sentence leaves -/
def hFs (w0 w : cm_W) : Prop := ∀ k i, ¬ (k = 184 ∧ i ≠ 2) → k ≠ 188 → k ≠ 199 → w.1 k i = w0.1 k i
theorem hFs_tr {a b c : cm_W} (h1 : hFs a b) (h2 : hFs b c) : hFs a c := fun k i x y z => (h2 k i x y z).trans (h1 k i x y z)
def hcd (w : cm_W) (c : Nat) (a b n : Int32) : cm_W := cm_u1 (cm_u1 (cm_u1 (cm_u1 w 188 (3 * c) a) 188 (1 + 3 * c) b) 188 (2 + 3 * c) n) 184 39 (Int32.ofNat (c + 1))
set_option maxRecDepth 100000 in
theorem xd_83a7f8ce : decode (ia_code 247) 0 = .ok (.aload_n 0, 1) := fdd_d (by decide +kernel)
set_option maxRecDepth 100000 in
theorem xd_6d1323b0 : decode (ia_code 247) 1 = .ok (.getfield 40, 3) := fdd_d (by decide +kernel)
set_option maxRecDepth 100000 in
theorem xf_956f4286 : wk_gf 247 40 184 8 (188 + 3) = true := by decide +kernel
set_option maxRecDepth 100000 in
theorem xd_974ddeee : decode (ia_code 247) 4 = .ok (.iconst 3, 1) := fdd_d (by decide +kernel)
set_option maxRecDepth 100000 in
theorem xd_1888b389 : decode (ia_code 247) 5 = .ok (.aload_n 0, 1) := fdd_d (by decide +kernel)
set_option maxRecDepth 100000 in
theorem xd_70d452b1 : decode (ia_code 247) 6 = .ok (.getfield 407, 3) := fdd_d (by decide +kernel)
set_option maxRecDepth 100000 in
theorem xf_8de35020 : wk_gf 247 407 184 39 0 = true := by decide +kernel
set_option maxRecDepth 100000 in
theorem xd_d7de45ce : decode (ia_code 247) 9 = .ok (.imul, 1) := fdd_d (by decide +kernel)
set_option maxRecDepth 100000 in
theorem xd_93546fd9 : decode (ia_code 247) 10 = .ok (.iload_n 1, 1) := fdd_d (by decide +kernel)
set_option maxRecDepth 100000 in
theorem xd_965093e4 : decode (ia_code 247) 11 = .ok (.iastore, 1) := fdd_d (by decide +kernel)
set_option maxRecDepth 100000 in
theorem xf_659780ae : wk_ar 188 50 135 = true := by decide +kernel
set_option maxRecDepth 100000 in
theorem xd_19a146ed : decode (ia_code 247) 12 = .ok (.aload_n 0, 1) := fdd_d (by decide +kernel)
set_option maxRecDepth 100000 in
theorem xd_ff63505c : decode (ia_code 247) 13 = .ok (.getfield 40, 3) := fdd_d (by decide +kernel)
set_option maxRecDepth 100000 in
theorem xd_2e404b6f : decode (ia_code 247) 16 = .ok (.iconst 3, 1) := fdd_d (by decide +kernel)
set_option maxRecDepth 100000 in
theorem xd_828e0daa : decode (ia_code 247) 17 = .ok (.aload_n 0, 1) := fdd_d (by decide +kernel)
set_option maxRecDepth 100000 in
theorem xd_a64737f3 : decode (ia_code 247) 18 = .ok (.getfield 407, 3) := fdd_d (by decide +kernel)
set_option maxRecDepth 100000 in
theorem xd_a9e4c0d7 : decode (ia_code 247) 21 = .ok (.imul, 1) := fdd_d (by decide +kernel)
set_option maxRecDepth 100000 in
theorem xd_7ec4b232 : decode (ia_code 247) 22 = .ok (.iconst 1, 1) := fdd_d (by decide +kernel)
set_option maxRecDepth 100000 in
theorem xd_936a5bdf : decode (ia_code 247) 23 = .ok (.iadd, 1) := fdd_d (by decide +kernel)
set_option maxRecDepth 100000 in
theorem xd_8cb61db2 : decode (ia_code 247) 24 = .ok (.iload_n 2, 1) := fdd_d (by decide +kernel)
set_option maxRecDepth 100000 in
theorem xd_bdd13a1f : decode (ia_code 247) 25 = .ok (.iastore, 1) := fdd_d (by decide +kernel)
set_option maxRecDepth 100000 in
theorem xd_41e34e56 : decode (ia_code 247) 26 = .ok (.aload_n 0, 1) := fdd_d (by decide +kernel)
set_option maxRecDepth 100000 in
theorem xd_f689f75f : decode (ia_code 247) 27 = .ok (.getfield 40, 3) := fdd_d (by decide +kernel)
set_option maxRecDepth 100000 in
theorem xd_b127c206 : decode (ia_code 247) 30 = .ok (.iconst 3, 1) := fdd_d (by decide +kernel)
set_option maxRecDepth 100000 in
theorem xd_b67fb3df : decode (ia_code 247) 31 = .ok (.aload_n 0, 1) := fdd_d (by decide +kernel)
set_option maxRecDepth 100000 in
theorem xd_3b3c67a2 : decode (ia_code 247) 32 = .ok (.getfield 407, 3) := fdd_d (by decide +kernel)
set_option maxRecDepth 100000 in
theorem xd_75ae9789 : decode (ia_code 247) 35 = .ok (.imul, 1) := fdd_d (by decide +kernel)
set_option maxRecDepth 100000 in
theorem xd_feb6b136 : decode (ia_code 247) 36 = .ok (.iconst 2, 1) := fdd_d (by decide +kernel)
set_option maxRecDepth 100000 in
theorem xd_4f200c81 : decode (ia_code 247) 37 = .ok (.iadd, 1) := fdd_d (by decide +kernel)
set_option maxRecDepth 100000 in
theorem xd_3016b390 : decode (ia_code 247) 38 = .ok (.iload_n 3, 1) := fdd_d (by decide +kernel)
set_option maxRecDepth 100000 in
theorem xd_9df25312 : decode (ia_code 247) 39 = .ok (.iastore, 1) := fdd_d (by decide +kernel)
set_option maxRecDepth 100000 in
theorem xd_1c146e7c : decode (ia_code 247) 40 = .ok (.aload_n 0, 1) := fdd_d (by decide +kernel)
set_option maxRecDepth 100000 in
theorem xd_cd713c3f : decode (ia_code 247) 41 = .ok (.dup, 1) := fdd_d (by decide +kernel)
set_option maxRecDepth 100000 in
theorem xd_e9e92124 : decode (ia_code 247) 42 = .ok (.getfield 407, 3) := fdd_d (by decide +kernel)
set_option maxRecDepth 100000 in
theorem xd_f6d7fe08 : decode (ia_code 247) 45 = .ok (.iconst 1, 1) := fdd_d (by decide +kernel)
set_option maxRecDepth 100000 in
theorem xd_ea4c312b : decode (ia_code 247) 46 = .ok (.iadd, 1) := fdd_d (by decide +kernel)
set_option maxRecDepth 100000 in
theorem xd_7bdc48c9 : decode (ia_code 247) 47 = .ok (.putfield 407, 3) := fdd_d (by decide +kernel)
set_option maxRecDepth 100000 in
theorem xf_ff72707e : wk_pf 247 407 184 39 0 = true := by decide +kernel
set_option maxRecDepth 100000 in
theorem xd_e0509211 : decode (ia_code 247) 50 = .ok (.return_, 1) := fdd_d (by decide +kernel)
set_option maxRecDepth 100000 in
theorem xr_571676a9 : ia_ret 247 = none := by decide +kernel
set_option maxRecDepth 100000 in
theorem xm_54f932fb : ia_maxL 247 = 4 := by decide +kernel
set_option maxRecDepth 100000 in
theorem xf_d83edac6 : sv_gr sg 188 = [] := by decide +kernel
set_option maxRecDepth 100000 in
theorem xg_0d54e32a : sv_g sg 184 39 = (2147483648, 2147483693) := by decide +kernel
set_option maxRecDepth 100000 in
theorem xd_d72e739a : decode (ia_code 276) 0 = .ok (.aload_n 0, 1) := fdd_d (by decide +kernel)
set_option maxRecDepth 100000 in
theorem xd_f6cdda1e : decode (ia_code 276) 1 = .ok (.getfield 410, 3) := fdd_d (by decide +kernel)
set_option maxRecDepth 100000 in
theorem xf_de6de123 : wk_gf 276 410 184 41 0 = true := by decide +kernel
set_option maxRecDepth 100000 in
theorem xd_36419b8e : decode (ia_code 276) 4 = .ok (.ifCond .le 50, 3) := fdd_d (by decide +kernel)
set_option maxRecDepth 100000 in
theorem xd_a575eb5c : decode (ia_code 276) 54 = .ok (.return_, 1) := fdd_d (by decide +kernel)
set_option maxRecDepth 100000 in
theorem xr_a2314af2 : ia_ret 276 = none := by decide +kernel
set_option maxRecDepth 100000 in
theorem xd_a197eb34 : decode (ia_code 276) 7 = .ok (.aload_n 0, 1) := fdd_d (by decide +kernel)
set_option maxRecDepth 100000 in
theorem xd_37ec7603 : decode (ia_code 276) 8 = .ok (.getfield 80, 3) := fdd_d (by decide +kernel)
set_option maxRecDepth 100000 in
theorem xf_008d46fe : wk_gf 276 80 184 38 (199 + 3) = true := by decide +kernel
set_option maxRecDepth 100000 in
theorem xd_031663b6 : decode (ia_code 276) 11 = .ok (.aload_n 0, 1) := fdd_d (by decide +kernel)
set_option maxRecDepth 100000 in
theorem xd_b01084ee : decode (ia_code 276) 12 = .ok (.getfield 410, 3) := fdd_d (by decide +kernel)
set_option maxRecDepth 100000 in
theorem xd_39713e1b : decode (ia_code 276) 15 = .ok (.iconst 1, 1) := fdd_d (by decide +kernel)
set_option maxRecDepth 100000 in
theorem xd_02804815 : decode (ia_code 276) 16 = .ok (.isub, 1) := fdd_d (by decide +kernel)
set_option maxRecDepth 100000 in
theorem xd_dce1e990 : decode (ia_code 276) 17 = .ok (.iaload, 1) := fdd_d (by decide +kernel)
set_option maxRecDepth 100000 in
theorem xf_80f5fdb6 : wk_ar 199 50 45 = true := by decide +kernel
set_option maxRecDepth 100000 in
theorem xd_98504bae : decode (ia_code 276) 18 = .ok (.bipush 20, 2) := fdd_d (by decide +kernel)
set_option maxRecDepth 100000 in
theorem xd_e06b29eb : decode (ia_code 276) 20 = .ok (.if_icmp .ne 34, 3) := fdd_d (by decide +kernel)
set_option maxRecDepth 100000 in
theorem xd_b69e1977 : decode (ia_code 276) 23 = .ok (.aload_n 0, 1) := fdd_d (by decide +kernel)
set_option maxRecDepth 100000 in
theorem xd_910142e8 : decode (ia_code 276) 24 = .ok (.dup, 1) := fdd_d (by decide +kernel)
set_option maxRecDepth 100000 in
theorem xd_db47d20b : decode (ia_code 276) 25 = .ok (.getfield 410, 3) := fdd_d (by decide +kernel)
set_option maxRecDepth 100000 in
theorem xd_bd5ed6e6 : decode (ia_code 276) 28 = .ok (.iconst 1, 1) := fdd_d (by decide +kernel)
set_option maxRecDepth 100000 in
theorem xd_57a96ad4 : decode (ia_code 276) 29 = .ok (.isub, 1) := fdd_d (by decide +kernel)
set_option maxRecDepth 100000 in
theorem xd_27fea0a7 : decode (ia_code 276) 30 = .ok (.putfield 410, 3) := fdd_d (by decide +kernel)
set_option maxRecDepth 100000 in
theorem xf_acfcc17d : wk_pf 276 410 184 41 0 = true := by decide +kernel
set_option maxRecDepth 100000 in
theorem xg_f29d027f : sv_g sg 184 41 = (2147483648, 2147483693) := by decide +kernel
set_option maxRecDepth 100000 in
theorem xd_37bb7c50 : decode (ia_code 276) 33 = .ok (.aload_n 0, 1) := fdd_d (by decide +kernel)
set_option maxRecDepth 100000 in
theorem xd_7e53f409 : decode (ia_code 276) 34 = .ok (.dup, 1) := fdd_d (by decide +kernel)
set_option maxRecDepth 100000 in
theorem xd_07eb155a : decode (ia_code 276) 35 = .ok (.getfield 417, 3) := fdd_d (by decide +kernel)
set_option maxRecDepth 100000 in
theorem xf_15c8266b : wk_gf 276 417 184 42 0 = true := by decide +kernel
set_option maxRecDepth 100000 in
theorem xd_262d3c32 : decode (ia_code 276) 38 = .ok (.iconst 1, 1) := fdd_d (by decide +kernel)
set_option maxRecDepth 100000 in
theorem xd_804bea8c : decode (ia_code 276) 39 = .ok (.isub, 1) := fdd_d (by decide +kernel)
set_option maxRecDepth 100000 in
theorem xd_470b3a31 : decode (ia_code 276) 40 = .ok (.putfield 417, 3) := fdd_d (by decide +kernel)
set_option maxRecDepth 100000 in
theorem xf_67590635 : wk_pf 276 417 184 42 0 = true := by decide +kernel
set_option maxRecDepth 100000 in
theorem xg_fb7c9e3d : sv_g sg 184 42 = sv_top := by decide +kernel
set_option maxRecDepth 100000 in
theorem xd_06a34b27 : decode (ia_code 276) 43 = .ok (.aload_n 0, 1) := fdd_d (by decide +kernel)
set_option maxRecDepth 100000 in
theorem xd_70965263 : decode (ia_code 276) 44 = .ok (.bipush 20, 2) := fdd_d (by decide +kernel)
set_option maxRecDepth 100000 in
theorem xd_a646f1ac : decode (ia_code 276) 46 = .ok (.iconst 0, 1) := fdd_d (by decide +kernel)
set_option maxRecDepth 100000 in
theorem xd_b16e956c : decode (ia_code 276) 47 = .ok (.iconst 0, 1) := fdd_d (by decide +kernel)
set_option maxRecDepth 100000 in
theorem xl_668d32ca : ia_pl (ia_cls 276) 413 = some (1, 247, 0, 0, 2036) := by decide +kernel
set_option maxRecDepth 100000 in
theorem xn_2844c07f : ia_na 247 = 4 := by decide +kernel
set_option maxRecDepth 100000 in
theorem xc_82edc90f : ia_mc 247 = 0 ∧ ia_ms 247 = 0 := ⟨by decide +kernel, by decide +kernel⟩
set_option maxRecDepth 100000 in
theorem xv_6dbeb463 : cm_rcv 247 [.inr (.inr (some 184))] = true := by decide +kernel
set_option maxRecDepth 100000 in
theorem xd_13acc77e : decode (ia_code 276) 48 = .ok (.invokevirtual 413, 3) := fdd_d (by decide +kernel)
set_option maxRecDepth 100000 in
theorem xd_563cd71c : decode (ia_code 276) 51 = .ok (.goto (-51), 3) := fdd_d (by decide +kernel)
set_option maxRecDepth 100000 in
theorem xm_9f679d6a : ia_maxL 276 = 1 := by decide +kernel
set_option maxRecDepth 100000 in
theorem xd_34483e41 : decode (ia_code 269) 0 = .ok (.aload_n 0, 1) := fdd_d (by decide +kernel)
set_option maxRecDepth 100000 in
theorem xd_9617f509 : decode (ia_code 269) 1 = .ok (.getfield 410, 3) := fdd_d (by decide +kernel)
set_option maxRecDepth 100000 in
theorem xf_85500acd : wk_gf 269 410 184 41 0 = true := by decide +kernel
set_option maxRecDepth 100000 in
theorem xd_3e76d4b9 : decode (ia_code 269) 4 = .ok (.ifCond .le 69, 3) := fdd_d (by decide +kernel)
set_option maxRecDepth 100000 in
theorem xd_e7846d0c : decode (ia_code 269) 73 = .ok (.return_, 1) := fdd_d (by decide +kernel)
set_option maxRecDepth 100000 in
theorem xr_6c6a4c1d : ia_ret 269 = none := by decide +kernel
set_option maxRecDepth 100000 in
theorem xd_42f1a6ef : decode (ia_code 269) 7 = .ok (.aload_n 0, 1) := fdd_d (by decide +kernel)
set_option maxRecDepth 100000 in
theorem xd_5d4db49c : decode (ia_code 269) 8 = .ok (.getfield 80, 3) := fdd_d (by decide +kernel)
set_option maxRecDepth 100000 in
theorem xf_6a2c8461 : wk_gf 269 80 184 38 (199 + 3) = true := by decide +kernel
set_option maxRecDepth 100000 in
theorem xd_12f40ea7 : decode (ia_code 269) 11 = .ok (.aload_n 0, 1) := fdd_d (by decide +kernel)
set_option maxRecDepth 100000 in
theorem xd_33a3db06 : decode (ia_code 269) 12 = .ok (.getfield 410, 3) := fdd_d (by decide +kernel)
set_option maxRecDepth 100000 in
theorem xd_da1773c0 : decode (ia_code 269) 15 = .ok (.iconst 1, 1) := fdd_d (by decide +kernel)
set_option maxRecDepth 100000 in
theorem xd_4569ba81 : decode (ia_code 269) 16 = .ok (.isub, 1) := fdd_d (by decide +kernel)
set_option maxRecDepth 100000 in
theorem xd_9a7f7257 : decode (ia_code 269) 17 = .ok (.iaload, 1) := fdd_d (by decide +kernel)
set_option maxRecDepth 100000 in
theorem xd_b4d20f0f : decode (ia_code 269) 18 = .ok (.bipush 21, 2) := fdd_d (by decide +kernel)
set_option maxRecDepth 100000 in
theorem xd_0180c4c0 : decode (ia_code 269) 20 = .ok (.if_icmp .eq 25, 3) := fdd_d (by decide +kernel)
set_option maxRecDepth 100000 in
theorem xd_fa8b544c : decode (ia_code 269) 45 = .ok (.aload_n 0, 1) := fdd_d (by decide +kernel)
set_option maxRecDepth 100000 in
theorem xd_107c8544 : decode (ia_code 269) 46 = .ok (.dup, 1) := fdd_d (by decide +kernel)
set_option maxRecDepth 100000 in
theorem xd_f1e79b4b : decode (ia_code 269) 47 = .ok (.getfield 410, 3) := fdd_d (by decide +kernel)
set_option maxRecDepth 100000 in
theorem xd_91c22593 : decode (ia_code 269) 50 = .ok (.iconst 1, 1) := fdd_d (by decide +kernel)
set_option maxRecDepth 100000 in
theorem xd_4d2fbd07 : decode (ia_code 269) 51 = .ok (.isub, 1) := fdd_d (by decide +kernel)
set_option maxRecDepth 100000 in
theorem xd_0d5ee9e7 : decode (ia_code 269) 52 = .ok (.putfield 410, 3) := fdd_d (by decide +kernel)
set_option maxRecDepth 100000 in
theorem xf_f7c12a93 : wk_pf 269 410 184 41 0 = true := by decide +kernel
set_option maxRecDepth 100000 in
theorem xd_7bae316b : decode (ia_code 269) 55 = .ok (.aload_n 0, 1) := fdd_d (by decide +kernel)
set_option maxRecDepth 100000 in
theorem xd_0d4b0856 : decode (ia_code 269) 56 = .ok (.aload_n 0, 1) := fdd_d (by decide +kernel)
set_option maxRecDepth 100000 in
theorem xd_1ef49f29 : decode (ia_code 269) 57 = .ok (.getfield 80, 3) := fdd_d (by decide +kernel)
set_option maxRecDepth 100000 in
theorem xd_b89fd304 : decode (ia_code 269) 60 = .ok (.aload_n 0, 1) := fdd_d (by decide +kernel)
set_option maxRecDepth 100000 in
theorem xd_13217078 : decode (ia_code 269) 61 = .ok (.getfield 410, 3) := fdd_d (by decide +kernel)
set_option maxRecDepth 100000 in
theorem xd_5c31b9c5 : decode (ia_code 269) 64 = .ok (.iaload, 1) := fdd_d (by decide +kernel)
set_option maxRecDepth 100000 in
theorem xd_91cec2de : decode (ia_code 269) 65 = .ok (.iconst 0, 1) := fdd_d (by decide +kernel)
set_option maxRecDepth 100000 in
theorem xd_a8b66f9e : decode (ia_code 269) 66 = .ok (.iconst 0, 1) := fdd_d (by decide +kernel)
set_option maxRecDepth 100000 in
theorem xl_a9ff1d71 : ia_pl (ia_cls 269) 413 = some (1, 247, 0, 0, 2036) := by decide +kernel
set_option maxRecDepth 100000 in
theorem xd_289d0eff : decode (ia_code 269) 67 = .ok (.invokevirtual 413, 3) := fdd_d (by decide +kernel)
set_option maxRecDepth 100000 in
theorem xd_711d9475 : decode (ia_code 269) 70 = .ok (.goto (-70), 3) := fdd_d (by decide +kernel)
set_option maxRecDepth 100000 in
theorem xd_a77c7466 : decode (ia_code 269) 23 = .ok (.aload_n 0, 1) := fdd_d (by decide +kernel)
set_option maxRecDepth 100000 in
theorem xd_f3da525c : decode (ia_code 269) 24 = .ok (.getfield 80, 3) := fdd_d (by decide +kernel)
set_option maxRecDepth 100000 in
theorem xd_a720d5f5 : decode (ia_code 269) 27 = .ok (.aload_n 0, 1) := fdd_d (by decide +kernel)
set_option maxRecDepth 100000 in
theorem xd_c0549016 : decode (ia_code 269) 28 = .ok (.getfield 410, 3) := fdd_d (by decide +kernel)
set_option maxRecDepth 100000 in
theorem xd_6b203329 : decode (ia_code 269) 31 = .ok (.iconst 1, 1) := fdd_d (by decide +kernel)
set_option maxRecDepth 100000 in
theorem xd_3a756b76 : decode (ia_code 269) 32 = .ok (.isub, 1) := fdd_d (by decide +kernel)
set_option maxRecDepth 100000 in
theorem xd_30569873 : decode (ia_code 269) 33 = .ok (.iaload, 1) := fdd_d (by decide +kernel)
set_option maxRecDepth 100000 in
theorem xd_2aac5b65 : decode (ia_code 269) 34 = .ok (.bipush 22, 2) := fdd_d (by decide +kernel)
set_option maxRecDepth 100000 in
theorem xd_ac033263 : decode (ia_code 269) 36 = .ok (.if_icmp .ne 37, 3) := fdd_d (by decide +kernel)
set_option maxRecDepth 100000 in
theorem xd_ac157b53 : decode (ia_code 269) 39 = .ok (.iload_n 1, 1) := fdd_d (by decide +kernel)
set_option maxRecDepth 100000 in
theorem xd_1be8cd81 : decode (ia_code 269) 40 = .ok (.bipush 22, 2) := fdd_d (by decide +kernel)
set_option maxRecDepth 100000 in
theorem xd_d7f23a0a : decode (ia_code 269) 42 = .ok (.if_icmp .ne 31, 3) := fdd_d (by decide +kernel)
set_option maxRecDepth 100000 in
theorem xm_4f6288a4 : ia_maxL 269 = 2 := by decide +kernel
theorem hcd_ok {w : cm_W} {c : Nat} (a b n : Int32) (hc : (w.1 184 39).toInt = (c : Int)) (hc44 : c ≤ 44) : cm_C 1 247 [.inr (.inr (some 184)), .inl a, .inl b, .inl n] w (none, hcd w c a b n) := by
  refine wk_exact (d := 0) (by rw [xm_54f932fb]; exact Nat.le_of_ble_eq_true rfl) ?_
  rw [show cm_ent 247 [.inr (.inr (some 184)), .inl a, .inl b, .inl n] = [some (.inr (.inr (some 184))), some (.inl a), some (.inl b), some (.inl n)] from by unfold cm_ent; rw [xm_54f932fb]; rfl]
  refine wk_aload_n xd_83a7f8ce rfl ?_
  refine wk_getR xf_956f4286 xd_6d1323b0 ?_
  refine wk_iconst xd_974ddeee ?_
  refine wk_aload_n xd_1888b389 rfl ?_
  refine wk_getI xf_8de35020 xd_70d452b1 ?_
  refine aw_imul (a := (3 : Int)) (b := ((c : Int) : Int)) (e := (3 * (c : Int) : Int)) xd_d7de45ce (show ((Int32.ofInt 3)).toInt = 3 from by decide) (show ((w.1 184 39)).toInt = ((c : Int) : Int) from hc) (by omega) (by omega) (by omega) (fun v1_ p1_ => ?_)
  refine wk_iload_n xd_93546fd9 rfl ?_
  refine aw_iastore (i := (3 * c)) xf_659780ae p1_ (by omega) (by omega) xd_965093e4 ?_
  refine wk_aload_n xd_19a146ed rfl ?_
  refine wk_getR xf_956f4286 xd_ff63505c ?_
  refine wk_iconst xd_2e404b6f ?_
  refine wk_aload_n xd_828e0daa rfl ?_
  refine wk_getI xf_8de35020 xd_a64737f3 ?_
  refine aw_imul (a := (3 : Int)) (b := ((c : Int) : Int)) (e := (3 * (c : Int) : Int)) xd_a9e4c0d7 (show ((Int32.ofInt 3)).toInt = 3 from by decide) (show (((cm_u1 w 188 (3 * c) a).1 184 39)).toInt = ((c : Int) : Int) from hc) (by omega) (by omega) (by omega) (fun v2_ p2_ => ?_)
  refine wk_iconst xd_7ec4b232 ?_
  refine aw_iadd (a := (3 * (c : Int) : Int)) (b := (1 : Int)) (e := (3 * (c : Int) + 1 : Int)) xd_936a5bdf p2_ (show ((Int32.ofInt 1)).toInt = 1 from by decide) (by omega) (by omega) (by omega) (fun v3_ p3_ => ?_)
  refine wk_iload_n xd_8cb61db2 rfl ?_
  refine aw_iastore (i := (1 + 3 * c)) xf_659780ae p3_ (by omega) (by omega) xd_bdd13a1f ?_
  refine wk_aload_n xd_41e34e56 rfl ?_
  refine wk_getR xf_956f4286 xd_f689f75f ?_
  refine wk_iconst xd_b127c206 ?_
  refine wk_aload_n xd_b67fb3df rfl ?_
  refine wk_getI xf_8de35020 xd_3b3c67a2 ?_
  refine aw_imul (a := (3 : Int)) (b := ((c : Int) : Int)) (e := (3 * (c : Int) : Int)) xd_75ae9789 (show ((Int32.ofInt 3)).toInt = 3 from by decide) (show (((cm_u1 (cm_u1 w 188 (3 * c) a) 188 (1 + 3 * c) b).1 184 39)).toInt = ((c : Int) : Int) from hc) (by omega) (by omega) (by omega) (fun v4_ p4_ => ?_)
  refine wk_iconst xd_feb6b136 ?_
  refine aw_iadd (a := (3 * (c : Int) : Int)) (b := (2 : Int)) (e := (3 * (c : Int) + 2 : Int)) xd_4f200c81 p4_ (show ((Int32.ofInt 2)).toInt = 2 from by decide) (by omega) (by omega) (by omega) (fun v5_ p5_ => ?_)
  refine wk_iload_n xd_3016b390 rfl ?_
  refine aw_iastore (i := (2 + 3 * c)) xf_659780ae p5_ (by omega) (by omega) xd_9df25312 ?_
  refine wk_aload_n xd_1c146e7c rfl ?_
  refine wk_dup_r xd_cd713c3f ?_
  refine wk_getI xf_8de35020 xd_e9e92124 ?_
  refine wk_iconst xd_f6d7fe08 ?_
  refine aw_iadd (a := ((c : Int) : Int)) (b := (1 : Int)) (e := ((c : Int) + 1 : Int)) xd_ea4c312b (show (((cm_u1 (cm_u1 (cm_u1 w 188 (3 * c) a) 188 (1 + 3 * c) b) 188 (2 + 3 * c) n).1 184 39)).toInt = ((c : Int) : Int) from hc) (show ((Int32.ofInt 1)).toInt = 1 from by decide) (by omega) (by omega) (by omega) (fun v6_ p6_ => ?_)
  refine wk_putI xf_ff72707e (fun ci => wk_fitI ci) xd_7bdc48c9 ?_
  obtain rfl : v6_ = Int32.ofNat (c + 1) := hk_of (j := c + 1) (by rw [p6_]; omega) (by omega)
  exact wk_return xd_e0509211 xr_571676a9 rfl
theorem hcd_o {w : cm_W} {c k i : Nat} {a b n : Int32} (h1 : k ≠ 188) (h2 : ¬ (k = 184 ∧ i = 39)) : (hcd w c a b n).1 k i = w.1 k i := by
  unfold hcd
  rw [hs_u1_ne h2, hs_u1_ne (fun z => h1 z.1), hs_u1_ne (fun z => h1 z.1), hs_u1_ne (fun z => h1 z.1)]
theorem hcd_c {w : cm_W} {c : Nat} {a b n : Int32} (hc : (w.1 184 39).toInt = (c : Int)) (hc44 : c ≤ 44) : ((hcd w c a b n).1 184 39).toInt = ((c + 1 : Nat) : Int) := by
  unfold hcd
  rw [hs_u1_self]
  exact hk_to (c + 1) (by omega)
theorem hcd_l {w : cm_W} {c j : Nat} {a b n : Int32} (h : j < 3 * c) : (hcd w c a b n).1 188 j = w.1 188 j := by
  unfold hcd
  rw [hs_u1_ne (by omega), hs_u1_ne (by omega), hs_u1_ne (by omega), hs_u1_ne (by omega)]
theorem hcd_0 {w : cm_W} {c : Nat} {a b n : Int32} : (hcd w c a b n).1 188 (3 * c) = a := by
  unfold hcd
  rw [hs_u1_ne (by omega), hs_u1_ne (by omega), hs_u1_ne (by omega), hs_u1_self]
theorem hcd_2 {w : cm_W} {c : Nat} {a b n : Int32} : (hcd w c a b n).1 188 (3 * c + 2) = n := by
  unfold hcd
  rw [hs_u1_ne (by omega), show 3 * c + 2 = 2 + 3 * c from by omega, hs_u1_self]
theorem hcd_G {w : cm_W} {c : Nat} {a b n : Int32} (hc : (w.1 184 39).toInt = (c : Int)) (hc44 : c ≤ 44) (hG : sv_w sg w) : sv_w sg (hcd w c a b n) := by
  refine sv_w_u1 (sv_w_u1 (sv_w_u1 (sv_w_u1 hG ?_) ?_) ?_) ?_
  · rw [show sv_g sg 188 (3 * c) = sv_top from by unfold sv_g; rw [xf_d83edac6]; rfl]; exact sv_in_top _
  · rw [show sv_g sg 188 (1 + 3 * c) = sv_top from by unfold sv_g; rw [xf_d83edac6]; rfl]; exact sv_in_top _
  · rw [show sv_g sg 188 (2 + 3 * c) = sv_top from by unfold sv_g; rw [xf_d83edac6]; rfl]; exact sv_in_top _
  · rw [xg_0d54e32a]
    have e := hk_to (c + 1) (by omega)
    exact hb_mk (by rw [e]; omega) (by rw [e]; omega)
/-- the top of the stack becomes a code -/
theorem hJs_pop {w v : cm_W} {c t n H : Nat} {a : Int32} (h : hJs w c (t + 1) n 1 H) (hv : ∀ k i, ¬ (k = 184 ∧ (i = 41 ∨ i = 42)) → v.1 k i = w.1 k i) (ht : (v.1 184 41).toInt = (t : Int)) (ha : (a.toInt = 20 ∧ (w.1 199 t).toInt = 20) ∨ ((a.toInt = 21 ∨ a.toInt = 22) ∧ ((w.1 199 t).toInt = 21 ∨ (w.1 199 t).toInt = 22))) : ∃ H', hJs (hcd v c a (Int32.ofInt 0) (Int32.ofInt 0)) (c + 1) t n 1 H' := by
  obtain ⟨j1, j2, j3, j4, j5, j6, j7, j8, j9⟩ := h
  have hc : (v.1 184 39).toInt = (c : Int) := by rw [hv 184 39 (by omega)]; exact j1
  have eA : hA (fun j => (hcd v c a (Int32.ofInt 0) (Int32.ofInt 0)).1 199 j) t = hA (fun j => w.1 199 j) t := hA_eq t (fun j _ => by rw [hcd_o (by decide) (by omega), hv 199 j (by omega)])
  have j7' : H = hA (fun j => w.1 199 j) t + (if 21 ≤ (w.1 199 t).toInt ∧ (w.1 199 t).toInt ≤ 22 then 1 else 0) + 1 := j7
  have go : ∀ H', jRow (fun j => (hcd v c a (Int32.ofInt 0) (Int32.ofInt 0)).1 188 j) c H H' → H' ≤ H + 1 → H' = hA (fun j => w.1 199 j) t + 1 → hJs (hcd v c a (Int32.ofInt 0) (Int32.ofInt 0)) (c + 1) t n 1 H' := fun H' hr hH e => by
    refine ⟨hcd_c hc (by omega), by rw [hcd_o (by decide) (by omega)]; exact ht, by rw [hcd_o (by decide) (by omega), hv 184 40 (by omega)]; exact j3, by rw [hcd_o (by decide) (by omega), hv 184 43 (by omega)]; exact j4, fun j hj => by rw [hcd_o (by decide) (by omega), hv 199 j (by omega)]; exact j5 j (by omega), hPq_push j6 (fun j hj => by rw [hcd_l hj, hv 188 j (by omega)]) hr hH, by rw [eA]; exact e, by omega, j9⟩
  rcases ha with ⟨a1, a2⟩ | ⟨a1, a2⟩
  · rw [if_neg (by omega)] at j7'
    refine ⟨H, go H (.inl ⟨?_, by omega, rfl⟩) (by omega) (by omega)⟩
    show ((hcd v c a (Int32.ofInt 0) (Int32.ofInt 0)).1 188 (3 * c)).toInt = 20
    rw [hcd_0]; exact a1
  · rw [if_pos (by omega)] at j7'
    refine ⟨H - 1, go (H - 1) (.inr (.inl ⟨?_, by omega, by omega⟩)) (by omega) (by omega)⟩
    show ((hcd v c a (Int32.ofInt 0) (Int32.ofInt 0)).1 188 (3 * c)).toInt = 21 ∨ ((hcd v c a (Int32.ofInt 0) (Int32.ofInt 0)).1 188 (3 * c)).toInt = 22
    rw [hcd_0]; exact a1
theorem hno_l (w0 : cm_W) (t0 n : Nat) (Q : cm_O → Prop) (hk : ∀ w c t H, hJs w c t n 1 H → hFs w0 w → sv_w sg w → t ≤ t0 → True → Q (none, w)) : ∀ (t c H : Nat) (w : cm_W), t ≤ t0 → hJs w c t n 1 H → hFs w0 w → sv_w sg w → cm_X (cm_C 1) 276 0 [some (.inr (.inr (some 184)))] [] w Q := by
  intro t
  induction t with
  | zero =>
    intro c H w ht0 hJ hF hG
    have j2 : (w.1 184 41).toInt = (0 : Int) := hJ.2.1
    refine wk_aload_n xd_d72e739a rfl ?_
    refine wk_getI xf_de6de123 xd_f6cdda1e ?_
    refine wk_if xd_36419b8e (t := 54) rfl (fun _ => ?_) (fun h => absurd (aw_le_f (show ((w.1 184 41)).toInt = (0 : Int) from j2) hb_z h) (by omega))
    exact wk_return xd_a575eb5c xr_a2314af2 (hk w c _ H hJ hF hG (by omega) trivial)
  | succ t ih =>
    intro c H w ht0 hJ hF hG
    have hJ0 := hJ
    obtain ⟨j1, j2, -, -, j5, -, -, j8, j9⟩ := hJ0
    have j2' : (w.1 184 41).toInt = ((t : Int) + 1 : Int) := by rw [j2]; omega
    have j5' := j5 t (by omega)
    refine wk_aload_n xd_d72e739a rfl ?_
    refine wk_getI xf_de6de123 xd_f6cdda1e ?_
    refine wk_if xd_36419b8e (t := 54) rfl (fun h4_1 => ?_) (fun h4_1 => ?_)
    · have h4_1 := aw_le_t (a := ((t : Int) + 1 : Int)) (b := (0 : Int)) (show ((w.1 184 41)).toInt = ((t : Int) + 1 : Int) from j2') hb_z h4_1
      exfalso
      omega
    · have h4_1 := aw_le_f (a := ((t : Int) + 1 : Int)) (b := (0 : Int)) (show ((w.1 184 41)).toInt = ((t : Int) + 1 : Int) from j2') hb_z h4_1
      refine wk_aload_n xd_a197eb34 rfl ?_
      refine wk_getR xf_008d46fe xd_37ec7603 ?_
      refine wk_aload_n xd_031663b6 rfl ?_
      refine wk_getI xf_de6de123 xd_b01084ee ?_
      refine wk_iconst xd_39713e1b ?_
      refine aw_isub (a := ((t : Int) + 1 : Int)) (b := (1 : Int)) (e := ((t : Int) : Int)) xd_02804815 (show ((w.1 184 41)).toInt = ((t : Int) + 1 : Int) from j2') (show ((Int32.ofInt 1)).toInt = 1 from by decide) (by omega) (by omega) (by omega) (fun v3_ p3_ => ?_)
      refine aw_iaload (i := t) xf_80f5fdb6 p3_ (by omega) (by omega) xd_dce1e990 ?_
      refine wk_bipush xd_98504bae ?_
      refine wk_icmp xd_e06b29eb (t := 54) rfl (fun h20_3 => ?_) (fun h20_3 => ?_)
      · have h20_3 := aw_ne_t (a := ((w.1 199 t).toInt : Int)) (b := (20 : Int)) rfl (show (((Int8.ofInt 20).toInt32)).toInt = 20 from by decide) h20_3
        exact wk_return xd_a575eb5c xr_a2314af2 (hk w c _ H hJ hF hG (by omega) trivial)
      · have h20_3 := aw_ne_f (a := ((w.1 199 t).toInt : Int)) (b := (20 : Int)) rfl (show (((Int8.ofInt 20).toInt32)).toInt = 20 from by decide) h20_3
        refine wk_aload_n xd_b69e1977 rfl ?_
        refine wk_dup_r xd_910142e8 ?_
        refine wk_getI xf_de6de123 xd_db47d20b ?_
        refine wk_iconst xd_bd5ed6e6 ?_
        refine aw_isub (a := ((t : Int) + 1 : Int)) (b := (1 : Int)) (e := ((t : Int) : Int)) xd_57a96ad4 (show ((w.1 184 41)).toInt = ((t : Int) + 1 : Int) from j2') (show ((Int32.ofInt 1)).toInt = 1 from by decide) (by omega) (by omega) (by omega) (fun v5_ p5_ => ?_)
        refine wk_putI xf_acfcc17d (fun ci => wk_fitI ci) xd_27fea0a7 ?_
        have hG6_ : sv_w sg (cm_u1 w 184 41 v5_) := sv_w_u1 hG (by rw [xg_f29d027f]; exact hb_mk (by rw [p5_]; omega) (by rw [p5_]; omega))
        refine wk_aload_n xd_37bb7c50 rfl ?_
        refine wk_dup_r xd_7e53f409 ?_
        refine wk_getI xf_15c8266b xd_07eb155a ?_
        refine wk_iconst xd_262d3c32 ?_
        refine wk_isub xd_804bea8c ?_
        refine wk_putI xf_67590635 (fun ci => wk_fitI ci) xd_470b3a31 ?_
        have hG7_ : sv_w sg (cm_u1 (cm_u1 w 184 41 v5_) 184 42 (((cm_u1 w 184 41 v5_).1 184 42) - (Int32.ofInt 1))) := sv_w_u1 hG6_ (by rw [xg_fb7c9e3d]; exact sv_in_top _)
        refine wk_aload_n xd_06a34b27 rfl ?_
        refine wk_bipush xd_70965263 ?_
        refine wk_iconst xd_a646f1ac ?_
        refine wk_iconst xd_b16e956c ?_
        have hv : ∀ k i, ¬ (k = 184 ∧ (i = 41 ∨ i = 42)) → (cm_u1 (cm_u1 w 184 41 v5_) 184 42 (((cm_u1 w 184 41 v5_).1 184 42) - (Int32.ofInt 1))).1 k i = w.1 k i := fun k i hki => by rw [hs_u1_ne (by omega), hs_u1_ne (by omega)]
        have ht : ((cm_u1 (cm_u1 w 184 41 v5_) 184 42 (((cm_u1 w 184 41 v5_).1 184 42) - (Int32.ofInt 1))).1 184 41).toInt = (t : Int) := (show (((cm_u1 (cm_u1 w 184 41 v5_) 184 42 (((cm_u1 w 184 41 v5_).1 184 42) - (Int32.ofInt 1))).1 184 41)).toInt = ((t : Int) : Int) from p5_).trans (by omega)
        have hc : ((cm_u1 (cm_u1 w 184 41 v5_) 184 42 (((cm_u1 w 184 41 v5_).1 184 42) - (Int32.ofInt 1))).1 184 39).toInt = (c : Int) := j1
        obtain ⟨H', hJ'⟩ := hJs_pop (a := ((Int8.ofInt 20).toInt32)) hJ hv ht (.inl ⟨by decide, by omega⟩)
        refine wk_call (kd := 0) (i := 413) xd_13acc77e rfl (wk_cal (as := [.inr (.inr (some 184)), .inl ((Int8.ofInt 20).toInt32), .inl (Int32.ofInt 0), .inl (Int32.ofInt 0)]) (t := []) xl_668d32ca rfl xn_2844c07f xc_82edc90f rfl rfl xv_6dbeb463 rfl) (hcd_ok ((Int8.ofInt 20).toInt32) (Int32.ofInt 0) (Int32.ofInt 0) hc (by omega)) ?_
        refine wk_goto xd_563cd71c (t := 0) rfl ?_
        exact ih (c + 1) H' _ (by omega) hJ' (fun k i x1 x2 x3 => by rw [hcd_o x2 (by omega), hv k i (by omega)]; exact hF k i x1 x2 x3) (hcd_G hc (by omega) hG7_)
theorem hno_ok {w : cm_W} {c t n H : Nat} (hJ : hJs w c t n 1 H) (hG : sv_w sg w) : ∃ w' c' t' H', cm_C 2 276 [.inr (.inr (some 184))] w (none, w') ∧ hJs w' c' t' n 1 H' ∧ hFs w w' ∧ sv_w sg w' ∧ t' ≤ t ∧ True := by
  have h : ∃ o, cm_C (1 + 1) 276 [.inr (.inr (some 184))] w o ∧ (fun o : cm_O => ∃ w' c' t' H', o = (none, w') ∧ hJs w' c' t' n 1 H' ∧ hFs w w' ∧ sv_w sg w' ∧ t' ≤ t ∧ True) o := by
    refine wk_entry (by rw [xm_9f679d6a]; exact Nat.le_of_ble_eq_true rfl) ?_
    rw [show cm_ent 276 [.inr (.inr (some 184))] = [some (.inr (.inr (some 184)))] from by unfold cm_ent; rw [xm_9f679d6a]; rfl]
    exact hno_l w t n _ (fun w2 c2 t2 H2 a1 a2 a3 a4 a5 => ⟨w2, c2, t2, H2, rfl, a1, a2, a3, a4, a5⟩) t c H w (Nat.le_refl _) hJ (fun _ _ _ _ _ => rfl) hG
  obtain ⟨o, hC, w', c', t', H', rfl, a⟩ := h
  exact ⟨w', c', t', H', hC, a⟩
theorem hjo_l (w0 : cm_W) (g : Int32) (t0 n : Nat) (Q : cm_O → Prop) (hk : ∀ w c t H, hJs w c t n 1 H → hFs w0 w → sv_w sg w → t ≤ t0 → (g.toInt = 22 → t = 0 ∨ ¬ (21 ≤ (w.1 199 (t - 1)).toInt ∧ (w.1 199 (t - 1)).toInt ≤ 22)) → Q (none, w)) : ∀ (t c H : Nat) (w : cm_W), t ≤ t0 → hJs w c t n 1 H → hFs w0 w → sv_w sg w → cm_X (cm_C 1) 269 0 [some (.inr (.inr (some 184))), some (.inl g)] [] w Q := by
  intro t
  induction t with
  | zero =>
    intro c H w ht0 hJ hF hG
    have j2 : (w.1 184 41).toInt = (0 : Int) := hJ.2.1
    refine wk_aload_n xd_34483e41 rfl ?_
    refine wk_getI xf_85500acd xd_9617f509 ?_
    refine wk_if xd_3e76d4b9 (t := 73) rfl (fun _ => ?_) (fun h => absurd (aw_le_f (show ((w.1 184 41)).toInt = (0 : Int) from j2) hb_z h) (by omega))
    exact wk_return xd_e7846d0c xr_6c6a4c1d (hk w c _ H hJ hF hG (by omega) (fun hg => by first | exact .inl (by omega) | (refine .inr ?_; show ¬ (21 ≤ (w.1 199 t).toInt ∧ (w.1 199 t).toInt ≤ 22); omega) | omega))
  | succ t ih =>
    intro c H w ht0 hJ hF hG
    have hJ0 := hJ
    obtain ⟨j1, j2, -, -, j5, -, -, j8, j9⟩ := hJ0
    have j2' : (w.1 184 41).toInt = ((t : Int) + 1 : Int) := by rw [j2]; omega
    have j5' := j5 t (by omega)
    refine wk_aload_n xd_34483e41 rfl ?_
    refine wk_getI xf_85500acd xd_9617f509 ?_
    refine wk_if xd_3e76d4b9 (t := 73) rfl (fun h4_1 => ?_) (fun h4_1 => ?_)
    · have h4_1 := aw_le_t (a := ((t : Int) + 1 : Int)) (b := (0 : Int)) (show ((w.1 184 41)).toInt = ((t : Int) + 1 : Int) from j2') hb_z h4_1
      exfalso
      omega
    · have h4_1 := aw_le_f (a := ((t : Int) + 1 : Int)) (b := (0 : Int)) (show ((w.1 184 41)).toInt = ((t : Int) + 1 : Int) from j2') hb_z h4_1
      refine wk_aload_n xd_42f1a6ef rfl ?_
      refine wk_getR xf_6a2c8461 xd_5d4db49c ?_
      refine wk_aload_n xd_12f40ea7 rfl ?_
      refine wk_getI xf_85500acd xd_33a3db06 ?_
      refine wk_iconst xd_da1773c0 ?_
      refine aw_isub (a := ((t : Int) + 1 : Int)) (b := (1 : Int)) (e := ((t : Int) : Int)) xd_4569ba81 (show ((w.1 184 41)).toInt = ((t : Int) + 1 : Int) from j2') (show ((Int32.ofInt 1)).toInt = 1 from by decide) (by omega) (by omega) (by omega) (fun v3_ p3_ => ?_)
      refine aw_iaload (i := t) xf_80f5fdb6 p3_ (by omega) (by omega) xd_9a7f7257 ?_
      refine wk_bipush xd_b4d20f0f ?_
      refine wk_icmp xd_0180c4c0 (t := 45) rfl (fun h20_3 => ?_) (fun h20_3 => ?_)
      · have h20_3 := aw_eq_t (a := ((w.1 199 t).toInt : Int)) (b := (21 : Int)) rfl (show (((Int8.ofInt 21).toInt32)).toInt = 21 from by decide) h20_3
        refine wk_aload_n xd_fa8b544c rfl ?_
        refine wk_dup_r xd_107c8544 ?_
        refine wk_getI xf_85500acd xd_f1e79b4b ?_
        refine wk_iconst xd_91c22593 ?_
        refine aw_isub (a := ((t : Int) + 1 : Int)) (b := (1 : Int)) (e := ((t : Int) : Int)) xd_4d2fbd07 (show ((w.1 184 41)).toInt = ((t : Int) + 1 : Int) from j2') (show ((Int32.ofInt 1)).toInt = 1 from by decide) (by omega) (by omega) (by omega) (fun v5_ p5_ => ?_)
        refine wk_putI xf_f7c12a93 (fun ci => wk_fitI ci) xd_0d5ee9e7 ?_
        have hG6_ : sv_w sg (cm_u1 w 184 41 v5_) := sv_w_u1 hG (by rw [xg_f29d027f]; exact hb_mk (by rw [p5_]; omega) (by rw [p5_]; omega))
        refine wk_aload_n xd_7bae316b rfl ?_
        refine wk_aload_n xd_0d4b0856 rfl ?_
        refine wk_getR xf_6a2c8461 xd_1ef49f29 ?_
        refine wk_aload_n xd_b89fd304 rfl ?_
        refine wk_getI xf_85500acd xd_13217078 ?_
        refine aw_iaload (i := t) xf_80f5fdb6 (show (((cm_u1 w 184 41 v5_).1 184 41)).toInt = ((t : Int) : Int) from p5_) (by omega) (by omega) xd_5c31b9c5 ?_
        refine wk_iconst xd_91cec2de ?_
        refine wk_iconst xd_a8b66f9e ?_
        have hv : ∀ k i, ¬ (k = 184 ∧ (i = 41 ∨ i = 42)) → (cm_u1 w 184 41 v5_).1 k i = w.1 k i := fun k i hki => by rw [hs_u1_ne (by omega)]
        have ht : ((cm_u1 w 184 41 v5_).1 184 41).toInt = (t : Int) := (show (((cm_u1 w 184 41 v5_).1 184 41)).toInt = ((t : Int) : Int) from p5_).trans (by omega)
        have hc : ((cm_u1 w 184 41 v5_).1 184 39).toInt = (c : Int) := j1
        obtain ⟨H', hJ'⟩ := hJs_pop (a := ((cm_u1 w 184 41 v5_).1 199 t)) hJ hv ht (.inr ⟨by show (w.1 199 t).toInt = 21 ∨ (w.1 199 t).toInt = 22; omega, by omega⟩)
        refine wk_call (kd := 0) (i := 413) xd_289d0eff rfl (wk_cal (as := [.inr (.inr (some 184)), .inl ((cm_u1 w 184 41 v5_).1 199 t), .inl (Int32.ofInt 0), .inl (Int32.ofInt 0)]) (t := []) xl_a9ff1d71 rfl xn_2844c07f xc_82edc90f rfl rfl xv_6dbeb463 rfl) (hcd_ok ((cm_u1 w 184 41 v5_).1 199 t) (Int32.ofInt 0) (Int32.ofInt 0) hc (by omega)) ?_
        refine wk_goto xd_711d9475 (t := 0) rfl ?_
        exact ih (c + 1) H' _ (by omega) hJ' (fun k i x1 x2 x3 => by rw [hcd_o x2 (by omega), hv k i (by omega)]; exact hF k i x1 x2 x3) (hcd_G hc (by omega) hG6_)
      · have h20_3 := aw_eq_f (a := ((w.1 199 t).toInt : Int)) (b := (21 : Int)) rfl (show (((Int8.ofInt 21).toInt32)).toInt = 21 from by decide) h20_3
        refine wk_aload_n xd_a77c7466 rfl ?_
        refine wk_getR xf_6a2c8461 xd_f3da525c ?_
        refine wk_aload_n xd_a720d5f5 rfl ?_
        refine wk_getI xf_85500acd xd_c0549016 ?_
        refine wk_iconst xd_6b203329 ?_
        refine aw_isub (a := ((t : Int) + 1 : Int)) (b := (1 : Int)) (e := ((t : Int) : Int)) xd_3a756b76 (show ((w.1 184 41)).toInt = ((t : Int) + 1 : Int) from j2') (show ((Int32.ofInt 1)).toInt = 1 from by decide) (by omega) (by omega) (by omega) (fun v7_ p7_ => ?_)
        refine aw_iaload (i := t) xf_80f5fdb6 p7_ (by omega) (by omega) xd_30569873 ?_
        refine wk_bipush xd_2aac5b65 ?_
        refine wk_icmp xd_ac033263 (t := 73) rfl (fun h36_7 => ?_) (fun h36_7 => ?_)
        · have h36_7 := aw_ne_t (a := ((w.1 199 t).toInt : Int)) (b := (22 : Int)) rfl (show (((Int8.ofInt 22).toInt32)).toInt = 22 from by decide) h36_7
          exact wk_return xd_e7846d0c xr_6c6a4c1d (hk w c _ H hJ hF hG (by omega) (fun hg => by first | exact .inl (by omega) | (refine .inr ?_; show ¬ (21 ≤ (w.1 199 t).toInt ∧ (w.1 199 t).toInt ≤ 22); omega) | omega))
        · have h36_7 := aw_ne_f (a := ((w.1 199 t).toInt : Int)) (b := (22 : Int)) rfl (show (((Int8.ofInt 22).toInt32)).toInt = 22 from by decide) h36_7
          refine wk_iload_n xd_ac157b53 rfl ?_
          refine wk_bipush xd_1be8cd81 ?_
          refine wk_icmp xd_d7f23a0a (t := 73) rfl (fun h42_8 => ?_) (fun h42_8 => ?_)
          · have h42_8 := aw_ne_t (a := ((g).toInt : Int)) (b := (22 : Int)) rfl (show (((Int8.ofInt 22).toInt32)).toInt = 22 from by decide) h42_8
            exact wk_return xd_e7846d0c xr_6c6a4c1d (hk w c _ H hJ hF hG (by omega) (fun hg => by first | exact .inl (by omega) | (refine .inr ?_; show ¬ (21 ≤ (w.1 199 t).toInt ∧ (w.1 199 t).toInt ≤ 22); omega) | omega))
          · have h42_8 := aw_ne_f (a := ((g).toInt : Int)) (b := (22 : Int)) rfl (show (((Int8.ofInt 22).toInt32)).toInt = 22 from by decide) h42_8
            refine wk_aload_n xd_fa8b544c rfl ?_
            refine wk_dup_r xd_107c8544 ?_
            refine wk_getI xf_85500acd xd_f1e79b4b ?_
            refine wk_iconst xd_91c22593 ?_
            refine aw_isub (a := ((t : Int) + 1 : Int)) (b := (1 : Int)) (e := ((t : Int) : Int)) xd_4d2fbd07 (show ((w.1 184 41)).toInt = ((t : Int) + 1 : Int) from j2') (show ((Int32.ofInt 1)).toInt = 1 from by decide) (by omega) (by omega) (by omega) (fun v10_ p10_ => ?_)
            refine wk_putI xf_f7c12a93 (fun ci => wk_fitI ci) xd_0d5ee9e7 ?_
            have hG11_ : sv_w sg (cm_u1 w 184 41 v10_) := sv_w_u1 hG (by rw [xg_f29d027f]; exact hb_mk (by rw [p10_]; omega) (by rw [p10_]; omega))
            refine wk_aload_n xd_7bae316b rfl ?_
            refine wk_aload_n xd_0d4b0856 rfl ?_
            refine wk_getR xf_6a2c8461 xd_1ef49f29 ?_
            refine wk_aload_n xd_b89fd304 rfl ?_
            refine wk_getI xf_85500acd xd_13217078 ?_
            refine aw_iaload (i := t) xf_80f5fdb6 (show (((cm_u1 w 184 41 v10_).1 184 41)).toInt = ((t : Int) : Int) from p10_) (by omega) (by omega) xd_5c31b9c5 ?_
            refine wk_iconst xd_91cec2de ?_
            refine wk_iconst xd_a8b66f9e ?_
            have hv : ∀ k i, ¬ (k = 184 ∧ (i = 41 ∨ i = 42)) → (cm_u1 w 184 41 v10_).1 k i = w.1 k i := fun k i hki => by rw [hs_u1_ne (by omega)]
            have ht : ((cm_u1 w 184 41 v10_).1 184 41).toInt = (t : Int) := (show (((cm_u1 w 184 41 v10_).1 184 41)).toInt = ((t : Int) : Int) from p10_).trans (by omega)
            have hc : ((cm_u1 w 184 41 v10_).1 184 39).toInt = (c : Int) := j1
            obtain ⟨H', hJ'⟩ := hJs_pop (a := ((cm_u1 w 184 41 v10_).1 199 t)) hJ hv ht (.inr ⟨by show (w.1 199 t).toInt = 21 ∨ (w.1 199 t).toInt = 22; omega, by omega⟩)
            refine wk_call (kd := 0) (i := 413) xd_289d0eff rfl (wk_cal (as := [.inr (.inr (some 184)), .inl ((cm_u1 w 184 41 v10_).1 199 t), .inl (Int32.ofInt 0), .inl (Int32.ofInt 0)]) (t := []) xl_a9ff1d71 rfl xn_2844c07f xc_82edc90f rfl rfl xv_6dbeb463 rfl) (hcd_ok ((cm_u1 w 184 41 v10_).1 199 t) (Int32.ofInt 0) (Int32.ofInt 0) hc (by omega)) ?_
            refine wk_goto xd_711d9475 (t := 0) rfl ?_
            exact ih (c + 1) H' _ (by omega) hJ' (fun k i x1 x2 x3 => by rw [hcd_o x2 (by omega), hv k i (by omega)]; exact hF k i x1 x2 x3) (hcd_G hc (by omega) hG11_)
theorem hjo_ok {w : cm_W} (g : Int32) {c t n H : Nat} (hJ : hJs w c t n 1 H) (hG : sv_w sg w) : ∃ w' c' t' H', cm_C 2 269 [.inr (.inr (some 184)), .inl g] w (none, w') ∧ hJs w' c' t' n 1 H' ∧ hFs w w' ∧ sv_w sg w' ∧ t' ≤ t ∧ (g.toInt = 22 → t' = 0 ∨ ¬ (21 ≤ (w'.1 199 (t' - 1)).toInt ∧ (w'.1 199 (t' - 1)).toInt ≤ 22)) := by
  have h : ∃ o, cm_C (1 + 1) 269 [.inr (.inr (some 184)), .inl g] w o ∧ (fun o : cm_O => ∃ w' c' t' H', o = (none, w') ∧ hJs w' c' t' n 1 H' ∧ hFs w w' ∧ sv_w sg w' ∧ t' ≤ t ∧ (g.toInt = 22 → t' = 0 ∨ ¬ (21 ≤ (w'.1 199 (t' - 1)).toInt ∧ (w'.1 199 (t' - 1)).toInt ≤ 22))) o := by
    refine wk_entry (by rw [xm_4f6288a4]; exact Nat.le_of_ble_eq_true rfl) ?_
    rw [show cm_ent 269 [.inr (.inr (some 184)), .inl g] = [some (.inr (.inr (some 184))), some (.inl g)] from by unfold cm_ent; rw [xm_4f6288a4]; rfl]
    exact hjo_l w g t n _ (fun w2 c2 t2 H2 a1 a2 a3 a4 a5 => ⟨w2, c2, t2, H2, rfl, a1, a2, a3, a4, a5⟩) t c H w (Nat.le_refl _) hJ (fun _ _ _ _ _ => rfl) hG
  obtain ⟨o, hC, w', c', t', H', rfl, a⟩ := h
  exact ⟨w', c', t', H', hC, a⟩

set_option maxRecDepth 100000 in
theorem xm_3dfaa7b2 : ia_maxL 42 = 1 := by decide +kernel
set_option maxRecDepth 100000 in
theorem xd_4193c9c7 : decode (ia_code 42) 0 = .ok (.aload_n 0, 1) := fdd_d (by decide +kernel)
set_option maxRecDepth 100000 in
theorem xd_a037126a : decode (ia_code 42) 1 = .ok (.getfield 100, 3) := fdd_d (by decide +kernel)
set_option maxRecDepth 100000 in
theorem xf_b96a88bd : wk_gf 42 100 0 16 (128 + 3) = true := by decide +kernel
set_option maxRecDepth 100000 in
theorem xd_05c94e11 : decode (ia_code 42) 4 = .ok (.getfield 327, 3) := fdd_d (by decide +kernel)
set_option maxRecDepth 100000 in
theorem xf_066ff904 : wk_gf 42 327 128 0 0 = true := by decide +kernel
set_option maxRecDepth 100000 in
theorem xd_e5704220 : decode (ia_code 42) 7 = .ok (.ireturn, 1) := fdd_d (by decide +kernel)
set_option maxRecDepth 100000 in
theorem xr_7e9a6f2d : ia_ret 42 = some .int := by decide +kernel
set_option maxRecDepth 100000 in
theorem xd_abed6937 : decode (ia_code 143) 0 = .ok (.aload_n 0, 1) := fdd_d (by decide +kernel)
set_option maxRecDepth 100000 in
theorem xd_d34d34c6 : decode (ia_code 143) 1 = .ok (.iconst 0, 1) := fdd_d (by decide +kernel)
set_option maxRecDepth 100000 in
theorem xd_ad3a94b6 : decode (ia_code 143) 2 = .ok (.putfield 1, 3) := fdd_d (by decide +kernel)
set_option maxRecDepth 100000 in
theorem xf_43f9d0be : wk_pf 143 1 184 0 0 = true := by decide +kernel
set_option maxRecDepth 100000 in
theorem xd_30c22270 : decode (ia_code 143) 5 = .ok (.aload_n 0, 1) := fdd_d (by decide +kernel)
set_option maxRecDepth 100000 in
theorem xd_547800ee : decode (ia_code 143) 6 = .ok (.getfield 353, 3) := fdd_d (by decide +kernel)
set_option maxRecDepth 100000 in
theorem xf_c8268b0f : wk_gf 143 353 184 30 0 = true := by decide +kernel
set_option maxRecDepth 100000 in
theorem xd_2319a878 : decode (ia_code 143) 9 = .ok (.ifCond .eq 10, 3) := fdd_d (by decide +kernel)
set_option maxRecDepth 100000 in
theorem xd_eb46b47a : decode (ia_code 143) 19 = .ok (.iconst (-1), 1) := fdd_d (by decide +kernel)
set_option maxRecDepth 100000 in
theorem xd_dfe62983 : decode (ia_code 143) 20 = .ok (.ireturn, 1) := fdd_d (by decide +kernel)
set_option maxRecDepth 100000 in
theorem xr_cf8faa15 : ia_ret 143 = some .int := by decide +kernel
set_option maxRecDepth 100000 in
theorem xd_dde846c4 : decode (ia_code 143) 12 = .ok (.aload_n 0, 1) := fdd_d (by decide +kernel)
set_option maxRecDepth 100000 in
theorem xd_accfdc15 : decode (ia_code 143) 13 = .ok (.getfield 357, 3) := fdd_d (by decide +kernel)
set_option maxRecDepth 100000 in
theorem xf_697733f4 : wk_gf 143 357 184 28 0 = true := by decide +kernel
set_option maxRecDepth 100000 in
theorem xd_216bc73a : decode (ia_code 143) 16 = .ok (.goto 4, 3) := fdd_d (by decide +kernel)
set_option maxRecDepth 100000 in
theorem xm_e0fb7a29 : ia_maxL 143 = 1 := by decide +kernel
set_option maxRecDepth 100000 in
theorem xm_d92a030b : ia_maxL 2 = 1 := by decide +kernel
set_option maxRecDepth 100000 in
theorem xd_4032e049 : decode (ia_code 2) 0 = .ok (.aload_n 0, 1) := fdd_d (by decide +kernel)
set_option maxRecDepth 100000 in
theorem xd_ae0b2874 : decode (ia_code 2) 1 = .ok (.getfield 100, 3) := fdd_d (by decide +kernel)
set_option maxRecDepth 100000 in
theorem xf_e59ab25c : wk_gf 2 100 0 16 (128 + 3) = true := by decide +kernel
set_option maxRecDepth 100000 in
theorem xd_72897bba : decode (ia_code 2) 4 = .ok (.getfield 330, 3) := fdd_d (by decide +kernel)
set_option maxRecDepth 100000 in
theorem xf_5b85a68f : wk_gf 2 330 128 1 0 = true := by decide +kernel
set_option maxRecDepth 100000 in
theorem xd_d7a2abab : decode (ia_code 2) 7 = .ok (.ireturn, 1) := fdd_d (by decide +kernel)
set_option maxRecDepth 100000 in
theorem xr_7fb05114 : ia_ret 2 = some .int := by decide +kernel
set_option maxRecDepth 100000 in
theorem xd_7e8b82b1 : decode (ia_code 91) 0 = .ok (.aload_n 0, 1) := fdd_d (by decide +kernel)
set_option maxRecDepth 100000 in
theorem xd_d5e756e4 : decode (ia_code 91) 1 = .ok (.iconst 0, 1) := fdd_d (by decide +kernel)
set_option maxRecDepth 100000 in
theorem xd_a934d448 : decode (ia_code 91) 2 = .ok (.putfield 1, 3) := fdd_d (by decide +kernel)
set_option maxRecDepth 100000 in
theorem xf_413f92cc : wk_pf 91 1 184 0 0 = true := by decide +kernel
set_option maxRecDepth 100000 in
theorem xd_e5a4c9f6 : decode (ia_code 91) 5 = .ok (.aload_n 0, 1) := fdd_d (by decide +kernel)
set_option maxRecDepth 100000 in
theorem xd_a89b8943 : decode (ia_code 91) 6 = .ok (.getfield 353, 3) := fdd_d (by decide +kernel)
set_option maxRecDepth 100000 in
theorem xf_cbcd86a9 : wk_gf 91 353 184 30 0 = true := by decide +kernel
set_option maxRecDepth 100000 in
theorem xd_8b8294a4 : decode (ia_code 91) 9 = .ok (.ifCond .eq 10, 3) := fdd_d (by decide +kernel)
set_option maxRecDepth 100000 in
theorem xd_17a53dd7 : decode (ia_code 91) 19 = .ok (.iconst (-1), 1) := fdd_d (by decide +kernel)
set_option maxRecDepth 100000 in
theorem xd_d94c4ba1 : decode (ia_code 91) 20 = .ok (.ireturn, 1) := fdd_d (by decide +kernel)
set_option maxRecDepth 100000 in
theorem xr_74aa73b8 : ia_ret 91 = some .int := by decide +kernel
set_option maxRecDepth 100000 in
theorem xd_d9e6063a : decode (ia_code 91) 12 = .ok (.aload_n 0, 1) := fdd_d (by decide +kernel)
set_option maxRecDepth 100000 in
theorem xd_30e04e77 : decode (ia_code 91) 13 = .ok (.getfield 360, 3) := fdd_d (by decide +kernel)
set_option maxRecDepth 100000 in
theorem xf_4f4af445 : wk_gf 91 360 184 29 0 = true := by decide +kernel
set_option maxRecDepth 100000 in
theorem xd_3dbcfa7f : decode (ia_code 91) 16 = .ok (.goto 4, 3) := fdd_d (by decide +kernel)
set_option maxRecDepth 100000 in
theorem xm_c6c4cebc : ia_maxL 91 = 1 := by decide +kernel
/-! ## ate, surely, ask answer alike (wip/p22/gen_atrel.py) -/
def jAt (w : cm_W) : Prop := ((w.1 184 30).toInt = 0 ∧ (w.1 128 0).toInt = -1 ∧ (w.1 128 1).toInt = -1) ∨ ((w.1 184 30).toInt ≠ 0 ∧ w.1 128 0 = w.1 184 28 ∧ w.1 128 1 = w.1 184 29)
theorem jAt_eq {w w' : cm_W} (h : jAt w) (a : w'.1 184 30 = w.1 184 30) (b : w'.1 128 0 = w.1 128 0) (c : w'.1 128 1 = w.1 128 1) (d : w'.1 184 28 = w.1 184 28) (e : w'.1 184 29 = w.1 184 29) : jAt w' := by
  unfold jAt
  rw [a, b, c, d, e]
  exact h
set_option maxRecDepth 100000 in
theorem jAt_f {w w' : cm_W} (h : jAt w) (f : u3_F u3_Ba w w') : jAt w' := jAt_eq h (f 184 _ 30 rfl (by decide +kernel)) (f 128 _ 0 rfl (by decide +kernel)) (f 128 _ 1 rfl (by decide +kernel)) (f 184 _ 28 rfl (by decide +kernel)) (f 184 _ 29 rfl (by decide +kernel))
def jIa (r : Nat) (w : cm_W) : Prop := jIv r w ∧ jAt w
def jLna (yx ym k : Nat) : Prop := ∀ (r : Nat) (w : cm_W) (as : List Int32), r ≤ 3000 → as.length = k → jIa r w → ∃ x w1 y w2, cm_C 24 yx (.inr (.inr (some 0)) :: as.map .inl) w (some (.inl x), w1) ∧ cm_C 24 ym (.inr (.inr (some 184)) :: as.map .inl) w1 (some (.inl y), w2) ∧ jIa (r + 2) w2
def jLea (yx ym k : Nat) : Prop := ∀ (r : Nat) (w : cm_W) (as : List Int32), r ≤ 3000 → as.length = k → jIa r w → ∃ x w1 y w2, cm_C 24 yx (.inr (.inr (some 0)) :: as.map .inl) w (some (.inl x), w1) ∧ cm_C 24 ym (.inr (.inr (some 184)) :: as.map .inl) w1 (some (.inl y), w2) ∧ jIa (r + 2) w2 ∧ x = y
theorem jLna_of {yx ym k : Nat} (h : jLea yx ym k) : jLna yx ym k := fun r w as h1 h2 h3 => by
  obtain ⟨x, w1, y, w2, a, b, c, -⟩ := h r w as h1 h2 h3
  exact ⟨x, w1, y, w2, a, b, c⟩
theorem jLna_up {yx ym k : Nat} (h : jLn yx ym k) (hx : (u3_Aa.map (fun z => z.1)).contains yx = true) (hm : (u3_Aa.map (fun z => z.1)).contains ym = true) : jLna yx ym k := fun r w as h1 h2 h3 => by
  obtain ⟨x, w1, y, w2, a, b, c⟩ := h r w as h1 h2 h3.1
  exact ⟨x, w1, y, w2, a, b, c, jAt_f (jAt_f h3.2 (u3_oka hx a)) (u3_oka hm b)⟩
theorem jLea_up {yx ym k : Nat} (h : jLe yx ym k) (hx : (u3_Aa.map (fun z => z.1)).contains yx = true) (hm : (u3_Aa.map (fun z => z.1)).contains ym = true) : jLea yx ym k := fun r w as h1 h2 h3 => by
  obtain ⟨x, w1, y, w2, a, b, c, e⟩ := h r w as h1 h2 h3.1
  exact ⟨x, w1, y, w2, a, b, ⟨c, jAt_f (jAt_f h3.2 (u3_oka hx a)) (u3_oka hm b)⟩, e⟩
theorem cx_surely {w : cm_W} : cm_C 1 42 [.inr (.inr (some 0))] w (some (.inl (w.1 128 0)), w) := by
  refine wk_exact (d := 0) (by rw [xm_3dfaa7b2]; exact Nat.le_of_ble_eq_true rfl) ?_
  rw [show cm_ent 42 [.inr (.inr (some 0))] = [some (.inr (.inr (some 0)))] from by unfold cm_ent; rw [xm_3dfaa7b2]; rfl]
  refine wk_aload_n xd_4193c9c7 rfl ?_
  refine wk_getR xf_b96a88bd xd_a037126a ?_
  refine wk_getI xf_066ff904 xd_05c94e11 ?_
  exact wk_ireturn xd_e5704220 xr_7e9a6f2d rfl rfl
theorem rx_surely {w : cm_W} : ∃ x w', cm_C 1 143 [.inr (.inr (some 184))] w (some (.inl x), w') ∧ (((w.1 184 30).toInt = 0 ∧ x = Int32.ofInt (-1)) ∨ ((w.1 184 30).toInt ≠ 0 ∧ x = w.1 184 28)) ∧ (∀ k i, ¬ (k = 184 ∧ i = 0) → w'.1 k i = w.1 k i) ∧ w'.2 = w.2 := by
  have h : ∃ o, cm_C (0 + 1) 143 [.inr (.inr (some 184))] w o ∧ (fun o : cm_O => ∃ x w', o = (some (.inl x), w') ∧ (((w.1 184 30).toInt = 0 ∧ x = Int32.ofInt (-1)) ∨ ((w.1 184 30).toInt ≠ 0 ∧ x = w.1 184 28)) ∧ (∀ k i, ¬ (k = 184 ∧ i = 0) → w'.1 k i = w.1 k i) ∧ w'.2 = w.2) o := by
    refine wk_entry (by rw [xm_e0fb7a29]; exact Nat.le_of_ble_eq_true rfl) ?_
    rw [show cm_ent 143 [.inr (.inr (some 184))] = [some (.inr (.inr (some 184)))] from by unfold cm_ent; rw [xm_e0fb7a29]; rfl]
    refine wk_aload_n xd_abed6937 rfl ?_
    refine wk_iconst xd_d34d34c6 ?_
    refine wk_putI xf_43f9d0be (fun ci => wk_fitI ci) xd_ad3a94b6 ?_
    refine wk_aload_n xd_30c22270 rfl ?_
    refine wk_getI xf_c8268b0f xd_547800ee ?_
    refine wk_if xd_2319a878 (t := 19) rfl (fun h9_0 => ?_) (fun h9_0 => ?_)
    · have h9_0 := aw_eq_t (a := ((w.1 184 30).toInt : Int)) (b := (0 : Int)) rfl hb_z h9_0
      refine wk_iconst xd_eb46b47a ?_
      exact wk_ireturn xd_dfe62983 xr_cf8faa15 rfl ⟨_, _, rfl, .inl ⟨by omega, rfl⟩, fun k i hk => hs_u1_ne hk, rfl⟩
    · have h9_0 := aw_eq_f (a := ((w.1 184 30).toInt : Int)) (b := (0 : Int)) rfl hb_z h9_0
      refine wk_aload_n xd_dde846c4 rfl ?_
      refine wk_getI xf_697733f4 xd_accfdc15 ?_
      refine wk_goto xd_216bc73a (t := 20) rfl ?_
      exact wk_ireturn xd_dfe62983 xr_cf8faa15 rfl ⟨_, _, rfl, .inr ⟨by omega, hs_u1_ne (by omega)⟩, fun k i hk => hs_u1_ne hk, rfl⟩
  obtain ⟨o, hC, x, w', rfl, a⟩ := h
  exact ⟨x, w', hC, a⟩
theorem if_surely : jLea 42 143 0 := by
  intro r w as hr hk h
  obtain ⟨h, hA⟩ := h
  match as, hk with
  | [], _ =>
    obtain ⟨x, w1, y, w2, hC1, hC2, hI⟩ := il_surely r w [] hr rfl h
    obtain ⟨e1, rfl⟩ := Prod.mk.inj (cm_det hC1 (cx_surely (w := w)))
    cases e1
    obtain ⟨y', w2', hC2', p1, p2, p3⟩ := rx_surely (w := w1)
    obtain ⟨e2, rfl⟩ := Prod.mk.inj (cm_det hC2 hC2')
    cases e2
    refine ⟨_, w1, y, w2, hC1, hC2, ⟨hI, jAt_eq hA (p2 _ _ (by omega)) (p2 _ _ (by omega)) (p2 _ _ (by omega)) (p2 _ _ (by omega)) (p2 _ _ (by omega))⟩, ?_⟩
    rcases hA with ⟨a1, a2, a3⟩ | ⟨a1, a2, a3⟩
    · rcases p1 with ⟨b1, b2⟩ | ⟨b1, b2⟩
      · rw [b2]
        exact Int32.toInt_inj.mp (a2.trans (by decide))
      · exact absurd a1 b1
    · rcases p1 with ⟨b1, b2⟩ | ⟨b1, b2⟩
      · exact absurd b1 a1
      · rw [b2]
        exact a2
theorem cx_ask {w : cm_W} : cm_C 1 2 [.inr (.inr (some 0))] w (some (.inl (w.1 128 1)), w) := by
  refine wk_exact (d := 0) (by rw [xm_d92a030b]; exact Nat.le_of_ble_eq_true rfl) ?_
  rw [show cm_ent 2 [.inr (.inr (some 0))] = [some (.inr (.inr (some 0)))] from by unfold cm_ent; rw [xm_d92a030b]; rfl]
  refine wk_aload_n xd_4032e049 rfl ?_
  refine wk_getR xf_e59ab25c xd_ae0b2874 ?_
  refine wk_getI xf_5b85a68f xd_72897bba ?_
  exact wk_ireturn xd_d7a2abab xr_7fb05114 rfl rfl
theorem rx_ask {w : cm_W} : ∃ x w', cm_C 1 91 [.inr (.inr (some 184))] w (some (.inl x), w') ∧ (((w.1 184 30).toInt = 0 ∧ x = Int32.ofInt (-1)) ∨ ((w.1 184 30).toInt ≠ 0 ∧ x = w.1 184 29)) ∧ (∀ k i, ¬ (k = 184 ∧ i = 0) → w'.1 k i = w.1 k i) ∧ w'.2 = w.2 := by
  have h : ∃ o, cm_C (0 + 1) 91 [.inr (.inr (some 184))] w o ∧ (fun o : cm_O => ∃ x w', o = (some (.inl x), w') ∧ (((w.1 184 30).toInt = 0 ∧ x = Int32.ofInt (-1)) ∨ ((w.1 184 30).toInt ≠ 0 ∧ x = w.1 184 29)) ∧ (∀ k i, ¬ (k = 184 ∧ i = 0) → w'.1 k i = w.1 k i) ∧ w'.2 = w.2) o := by
    refine wk_entry (by rw [xm_c6c4cebc]; exact Nat.le_of_ble_eq_true rfl) ?_
    rw [show cm_ent 91 [.inr (.inr (some 184))] = [some (.inr (.inr (some 184)))] from by unfold cm_ent; rw [xm_c6c4cebc]; rfl]
    refine wk_aload_n xd_7e8b82b1 rfl ?_
    refine wk_iconst xd_d5e756e4 ?_
    refine wk_putI xf_413f92cc (fun ci => wk_fitI ci) xd_a934d448 ?_
    refine wk_aload_n xd_e5a4c9f6 rfl ?_
    refine wk_getI xf_cbcd86a9 xd_a89b8943 ?_
    refine wk_if xd_8b8294a4 (t := 19) rfl (fun h9_0 => ?_) (fun h9_0 => ?_)
    · have h9_0 := aw_eq_t (a := ((w.1 184 30).toInt : Int)) (b := (0 : Int)) rfl hb_z h9_0
      refine wk_iconst xd_17a53dd7 ?_
      exact wk_ireturn xd_d94c4ba1 xr_74aa73b8 rfl ⟨_, _, rfl, .inl ⟨by omega, rfl⟩, fun k i hk => hs_u1_ne hk, rfl⟩
    · have h9_0 := aw_eq_f (a := ((w.1 184 30).toInt : Int)) (b := (0 : Int)) rfl hb_z h9_0
      refine wk_aload_n xd_d9e6063a rfl ?_
      refine wk_getI xf_4f4af445 xd_30e04e77 ?_
      refine wk_goto xd_3dbcfa7f (t := 20) rfl ?_
      exact wk_ireturn xd_d94c4ba1 xr_74aa73b8 rfl ⟨_, _, rfl, .inr ⟨by omega, hs_u1_ne (by omega)⟩, fun k i hk => hs_u1_ne hk, rfl⟩
  obtain ⟨o, hC, x, w', rfl, a⟩ := h
  exact ⟨x, w', hC, a⟩
theorem if_ask : jLea 2 91 0 := by
  intro r w as hr hk h
  obtain ⟨h, hA⟩ := h
  match as, hk with
  | [], _ =>
    obtain ⟨x, w1, y, w2, hC1, hC2, hI⟩ := il_ask r w [] hr rfl h
    obtain ⟨e1, rfl⟩ := Prod.mk.inj (cm_det hC1 (cx_ask (w := w)))
    cases e1
    obtain ⟨y', w2', hC2', p1, p2, p3⟩ := rx_ask (w := w1)
    obtain ⟨e2, rfl⟩ := Prod.mk.inj (cm_det hC2 hC2')
    cases e2
    refine ⟨_, w1, y, w2, hC1, hC2, ⟨hI, jAt_eq hA (p2 _ _ (by omega)) (p2 _ _ (by omega)) (p2 _ _ (by omega)) (p2 _ _ (by omega)) (p2 _ _ (by omega))⟩, ?_⟩
    rcases hA with ⟨a1, a2, a3⟩ | ⟨a1, a2, a3⟩
    · rcases p1 with ⟨b1, b2⟩ | ⟨b1, b2⟩
      · rw [b2]
        exact Int32.toInt_inj.mp (a3.trans (by decide))
      · exact absurd a1 b1
    · rcases p1 with ⟨b1, b2⟩ | ⟨b1, b2⟩
      · exact absurd b1 a1
      · rw [b2]
        exact a3
theorem at_R0 {F : Nat} : at_R F ((0, (fun _ => Int32.ofInt 0), at_i F) : at_S) ((0, (fun _ => Int32.ofInt 0), Int32.ofInt 15) : at_S) := ⟨rfl, fun i _ => ⟨rfl, show 0 ≤ (Int32.ofInt 0).toInt from by decide, show (Int32.ofInt 0).toInt ≤ 15 from by decide⟩, .inl ⟨rfl, rfl, rfl⟩⟩
theorem if_ate : jLea 3 92 0 := by
  intro r w as hr hk h
  obtain ⟨⟨h, hT⟩, hA⟩ := h
  obtain ⟨ht, hfl, hRl⟩ := id hT
  match as, hk with
  | [], _ =>
    obtain ⟨x, w1, hC1, h1, o1, tx, f1⟩ := ix_ate (w := w) (show r ≤ 4000 by omega) h
    obtain ⟨b1, b2, b3, ⟨hh, nm, b4, b5⟩, b6, b7⟩ := id hRl
    have g0 := hb_in (x := w.1 0 1) (lo := 2147483648) (hi := 2147484588) (by have g := h.1 0 1; rw [hs_g1.2.1] at g; exact g)
    obtain ⟨n, hn⟩ : ∃ n : Nat, (w.1 0 1).toInt = (n : Int) := ⟨(w.1 0 1).toInt.toNat, by omega⟩
    have hbd := b4.2.2
    unfold ps_bd at hbd
    obtain ⟨F, hFe⟩ : ∃ F : Nat, (F : Int) = hh 1 := ⟨(hh 1).toNat, by omega⟩
    have hF4 : F ≤ 4 := by omega
    have c1 : (w.1 4 4).toInt = hh 1 := b4.1 1 (.inl (by omega))
    have c2 : (w.1 186 1).toInt = hh 1 := b5.1 1 (.inl (by omega))
    have c3 : (w.1 4 0).toInt = hh 4 := b4.1 4 (.inl (by omega))
    have c4 : (w.1 186 4).toInt = hh 4 := b5.1 4 (.inl (by omega))
    have hFx : (w.1 4 4).toInt = (F : Int) := c1.trans hFe.symm
    have gs := hb_in (x := w.1 186 4) (lo := 2147483649) (hi := 2147483668) (by have g := h.1 186 4; rw [hb_G.2.2.1] at g; exact g)
    obtain ⟨S, hS⟩ : ∃ S : Nat, (w.1 4 0).toInt = (S : Int) := ⟨(w.1 4 0).toInt.toNat, by omega⟩
    have hS0 : 0 < S := by omega
    have q0 := b1 0 (by omega)
    have q1 := b1 1 (by omega)
    obtain ⟨x', w1', hC1', p1⟩ := cat_ok (w0 := w) (n := n) hn hFx hF4 hS hS0 q0.2.1 q1.2.1
    obtain ⟨e1, rfl⟩ := Prod.mk.inj (cm_det hC1 hC1')
    cases e1
    have hfr : ∀ k i, ¬ (k = 128 ∧ i < 2) → k ≠ 129 → ¬ (k = 0 ∧ i = 1) → w1.1 k i = w.1 k i := by
      rcases p1 with ⟨_, _, e⟩ | ⟨_, _, _, e, _⟩
      · rw [e]
        exact fun k i _ _ a => hs_u1_ne a
      · exact e
    have o0 : (w1.1 185 0 &&& ((Int16.ofInt 255).toInt32)) = w.1 1 0 := by rw [hfr 185 0 (by omega) (by omega) (by omega)]; exact Int32.toInt_inj.mp q0.1
    have o1' : (w1.1 185 1 &&& ((Int16.ofInt 255).toInt32)) = w.1 1 1 := by rw [hfr 185 1 (by omega) (by omega) (by omega)]; exact Int32.toInt_inj.mp q1.1
    have osp : w1.1 186 4 = w.1 4 0 := by rw [hfr 186 4 (by omega) (by omega) (by omega)]; exact Int32.toInt_inj.mp (c4.trans c3.symm)
    have hPe : at_P (fun j => w1.1 186 (25 + j)) F (w1.1 186 4) (w1.1 185 0 &&& ((Int16.ofInt 255).toInt32)) (w1.1 185 1 &&& ((Int16.ofInt 255).toInt32)) = at_P (fun j => w.1 11 j) F (w.1 4 0) (w.1 1 0) (w.1 1 1) := by
      funext p
      rw [o0, o1', osp]
      unfold at_P at_H
      rw [at_hbe (st := fun j => w1.1 186 (25 + j)) (st' := fun j => w.1 11 j) F 0 _ _ (fun i _ hi => ?_)]
      have hi : i < F := by omega
      show w1.1 186 (25 + i) = w.1 11 i
      rw [hfr 186 _ (by omega) (by omega) (by omega)]
      have l1 : vl_H w 4 (25 + i) = (w.1 11 i).toInt := by
        rcases (show i = 0 ∨ i = 1 ∨ i = 2 ∨ i = 3 by omega) with rfl | rfl | rfl | rfl
        all_goals rfl
      have l2 : ps_lv hh (25 + i) := by
        unfold ps_lv
        omega
      exact Int32.toInt_inj.mp ((b5.1 _ l2).trans ((b4.1 _ l2).symm.trans l1))
    have hR : at_R F ((at_M F).foldl (at_st F (at_P (fun j => w.1 11 j) F (w.1 4 0) (w.1 1 0) (w.1 1 1))) ((0, (fun _ => Int32.ofInt 0), at_i F) : at_S)) ((at_M F).foldl (at_sr (at_P (fun j => w.1 11 j) F (w.1 4 0) (w.1 1 0) (w.1 1 1))) ((0, (fun _ => Int32.ofInt 0), Int32.ofInt 15) : at_S)) := at_fold hF4 _ _ _ (fun p hp => at_okM hF4 hp) at_R0
    have hL : (List.range (cm_pr ia_arH (Int32.ofNat F)).toInt.toNat).map (fun k => cm_pr ia_arA (Int32.ofNat k)) = at_M F := at_LM hF4
    rw [hL] at p1
    obtain ⟨y, w2, hC2, h2, o2, ty, f2⟩ := im_ate (w := w1) (show r + 1 ≤ 4000 by omega) h1
    obtain ⟨y', w2', hC2', p2⟩ := rat_ok (w := w1) (F := F) (S := S) (n := n) (by rw [hfr 184 2 (by omega) (by omega) (by omega), ← ht]; exact hn) (by rw [hfr 186 1 (by omega) (by omega) (by omega)]; exact c2.trans hFe.symm) hF4 (by rw [osp]; exact hS) hS0 (by rw [o1']; exact q1.2.1) (fun i hi => by
      rw [hPe]
      obtain ⟨z1, z2, z3⟩ := hR.2.1 i hi
      rw [z1] at z2 z3
      exact ⟨z2, z3⟩)
    obtain ⟨e2, rfl⟩ := Prod.mk.inj (cm_det hC2 hC2')
    cases e2
    rw [hPe, o0] at p2
    have hTw : jTw w2 := jTw_fl hT (by rw [o2, tx, ty]) f1 f2 (u2_q (u2_ok (y := 3) (by decide +kernel) hC1)) (u2_q (u2_ok (y := 92) (by decide +kernel) hC2))
    rcases p1 with ⟨d1, d2, d3⟩ | ⟨d1, d1', d2, d3, d4, d5, d6⟩
    · rcases p2 with ⟨k1, k2, k3, k4, k5⟩ | ⟨k1, k1', _⟩
      · refine ⟨x, w1, y, w2, hC1, hC2, ⟨⟨h2, hTw⟩, jAt_eq hA ?_ ?_ ?_ ?_ ?_⟩, by rw [d2, k2]⟩
        all_goals exact (k3 _ _ (by omega)).trans (by rw [d3]; exact hs_u1_ne (by omega))
      · exact absurd ⟨k1, k1'⟩ d1
    · rcases p2 with ⟨k1, _⟩ | ⟨k1, k1', k2, k3, k4, k5, k6⟩
      · exact absurd ⟨d1, d1'⟩ k1
      · refine ⟨x, w1, y, w2, hC1, hC2, ⟨⟨h2, hTw⟩, ?_⟩, Int32.toInt_inj.mp (by rw [d2, k2, hR.1])⟩
        have n0 : w2.1 128 0 = w1.1 128 0 := k3 _ _ (by omega) (by omega) (by omega)
        have n1 : w2.1 128 1 = w1.1 128 1 := k3 _ _ (by omega) (by omega) (by omega)
        rcases d6 with ⟨m1, m2, m3⟩ | ⟨m1, m2, m3⟩
        · rcases k6 with ⟨l1, l2, l3, l4⟩ | ⟨l1, _⟩
          · exact jAt_eq hA (l4.trans (hfr _ _ (by omega) (by omega) (by omega))) (n0.trans m2) (n1.trans m3) (l2.trans (hfr _ _ (by omega) (by omega) (by omega))) (l3.trans (hfr _ _ (by omega) (by omega) (by omega)))
          · exact absurd (hR.1.symm.trans m1) l1
        · rcases k6 with ⟨l1, _⟩ | ⟨l1, l2, l3, l4⟩
          · exact absurd (hR.1.trans l1) m1
          · refine .inr ⟨by omega, ?_, ?_⟩
            · rw [n0, m2, l2]
              rcases hR.2.2 with ⟨z1, _⟩ | ⟨_, z2, _⟩
              · exact absurd z1 m1
              · exact z2
            · rw [n1, m3, l3]
              exact at_mue F 0 _ _ (fun i _ hi => (hR.2.1 i (by omega)).1)

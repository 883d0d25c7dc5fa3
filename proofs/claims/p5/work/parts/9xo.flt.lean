set_option maxRecDepth 100000 in
theorem xm_2a974cd1 : ia_maxL 11 = 1 := by decide +kernel
set_option maxRecDepth 100000 in
theorem xd_bc09543b : decode (ia_code 11) 0 = .ok (.aload_n 0, 1) := fdd_d (by decide +kernel)
set_option maxRecDepth 100000 in
theorem xd_37346b35 : decode (ia_code 11) 1 = .ok (.getfield 127, 3) := fdd_d (by decide +kernel)
set_option maxRecDepth 100000 in
theorem xf_96a36beb : wk_gf 11 127 0 3 0 = true := by decide +kernel
set_option maxRecDepth 100000 in
theorem xd_9846b31e : decode (ia_code 11) 4 = .ok (.ireturn, 1) := fdd_d (by decide +kernel)
set_option maxRecDepth 100000 in
theorem xr_47f36d8e : ia_ret 11 = some .int := by decide +kernel
set_option maxRecDepth 100000 in
theorem xd_caac0272 : decode (ia_code 103) 0 = .ok (.aload_n 0, 1) := fdd_d (by decide +kernel)
set_option maxRecDepth 100000 in
theorem xd_f9d9a218 : decode (ia_code 103) 1 = .ok (.iconst 0, 1) := fdd_d (by decide +kernel)
set_option maxRecDepth 100000 in
theorem xd_abed60c2 : decode (ia_code 103) 2 = .ok (.putfield 1, 3) := fdd_d (by decide +kernel)
set_option maxRecDepth 100000 in
theorem xf_aa91dd5c : wk_pf 103 1 184 0 0 = true := by decide +kernel
set_option maxRecDepth 100000 in
theorem xd_51834935 : decode (ia_code 103) 5 = .ok (.aload_n 0, 1) := fdd_d (by decide +kernel)
set_option maxRecDepth 100000 in
theorem xd_41704989 : decode (ia_code 103) 6 = .ok (.getfield 167, 3) := fdd_d (by decide +kernel)
set_option maxRecDepth 100000 in
theorem xf_c7f896d6 : wk_gf 103 167 184 15 0 = true := by decide +kernel
set_option maxRecDepth 100000 in
theorem xd_fbf6d944 : decode (ia_code 103) 9 = .ok (.ireturn, 1) := fdd_d (by decide +kernel)
set_option maxRecDepth 100000 in
theorem xr_d623250e : ia_ret 103 = some .int := by decide +kernel
set_option maxRecDepth 100000 in
theorem xm_7b6a383f : ia_maxL 103 = 1 := by decide +kernel
/-! ## fault answers alike (wip/p22/gen_flt.py) -/
def jFt (w : cm_W) : Prop := (w.1 0 3).toInt = (w.1 184 15).toInt
def jIf (r : Nat) (w : cm_W) : Prop := jIv r w ∧ jFt w
def jLnf (yx ym k : Nat) : Prop := ∀ (r : Nat) (w : cm_W) (as : List Int32), r ≤ 3000 → as.length = k → jIf r w → ∃ x w1 y w2, cm_C 24 yx (.inr (.inr (some 0)) :: as.map .inl) w (some (.inl x), w1) ∧ cm_C 24 ym (.inr (.inr (some 184)) :: as.map .inl) w1 (some (.inl y), w2) ∧ jIf (r + 2) w2
def jLef (yx ym k : Nat) : Prop := ∀ (r : Nat) (w : cm_W) (as : List Int32), r ≤ 3000 → as.length = k → jIf r w → ∃ x w1 y w2, cm_C 24 yx (.inr (.inr (some 0)) :: as.map .inl) w (some (.inl x), w1) ∧ cm_C 24 ym (.inr (.inr (some 184)) :: as.map .inl) w1 (some (.inl y), w2) ∧ jIf (r + 2) w2 ∧ x = y
theorem jLnf_of {yx ym k : Nat} (h : jLef yx ym k) : jLnf yx ym k := fun r w as h1 h2 h3 => by
  obtain ⟨x, w1, y, w2, a, b, c, -⟩ := h r w as h1 h2 h3
  exact ⟨x, w1, y, w2, a, b, c⟩
theorem jFt_f {w w' : cm_W} (h : jFt w) (f : u3_F u3_Bf w w') : jFt w' := by
  unfold jFt
  rw [u3_f0 f, u3_f184 f]
  exact h
theorem jLnf_up {yx ym k : Nat} (h : jLn yx ym k) (hx : (u3_Af.map (fun z => z.1)).contains yx = true) (hm : (u3_Af.map (fun z => z.1)).contains ym = true) : jLnf yx ym k := fun r w as h1 h2 h3 => by
  obtain ⟨x, w1, y, w2, a, b, c⟩ := h r w as h1 h2 h3.1
  exact ⟨x, w1, y, w2, a, b, c, jFt_f (jFt_f h3.2 (u3_okf hx a)) (u3_okf hm b)⟩
set_option maxRecDepth 100000 in
theorem u3_c0 {w w' : cm_W} (f : u3_F u3_Bc w w') : w'.1 0 3 = w.1 0 3 := f 0 _ 3 rfl (by decide +kernel)
theorem cx_fault {w : cm_W} : cm_C 1 11 [.inr (.inr (some 0))] w (some (.inl (w.1 0 3)), w) := by
  refine wk_exact (d := 0) (by rw [xm_2a974cd1]; exact Nat.le_of_ble_eq_true rfl) ?_
  rw [show cm_ent 11 [.inr (.inr (some 0))] = [some (.inr (.inr (some 0)))] from by unfold cm_ent; rw [xm_2a974cd1]; rfl]
  refine wk_aload_n xd_bc09543b rfl ?_
  refine wk_getI xf_96a36beb xd_37346b35 ?_
  exact wk_ireturn xd_9846b31e xr_47f36d8e rfl rfl
theorem rx_fault {w : cm_W} : ∃ x w', cm_C 1 103 [.inr (.inr (some 184))] w (some (.inl x), w') ∧ x = w.1 184 15 ∧ (∀ k i, ¬ (k = 184 ∧ i = 0) → w'.1 k i = w.1 k i) := by
  have h9 : ∃ oo, cm_C (0 + 1) 103 [.inr (.inr (some 184))] w oo ∧ (fun oo : cm_O => ∃ x w', oo = (some (.inl x), w') ∧ x = w.1 184 15 ∧ (∀ k i, ¬ (k = 184 ∧ i = 0) → w'.1 k i = w.1 k i)) oo := by
    refine wk_entry (by rw [xm_7b6a383f]; exact Nat.le_of_ble_eq_true rfl) ?_
    rw [show cm_ent 103 [.inr (.inr (some 184))] = [some (.inr (.inr (some 184)))] from by unfold cm_ent; rw [xm_7b6a383f]; rfl]
    refine wk_aload_n xd_caac0272 rfl ?_
    refine wk_iconst xd_f9d9a218 ?_
    refine wk_putI xf_aa91dd5c (fun ci => wk_fitI ci) xd_abed60c2 ?_
    refine wk_aload_n xd_51834935 rfl ?_
    refine wk_getI xf_c7f896d6 xd_41704989 ?_
    exact wk_ireturn xd_fbf6d944 xr_d623250e rfl ⟨_, _, rfl, hs_u1_ne (by omega), fun k i hk => hs_u1_ne hk⟩
  obtain ⟨oo, hC, x, w', rfl, a⟩ := h9
  exact ⟨x, w', hC, a⟩
theorem if_fault : jLef 11 103 0 := by
  intro r w as hr hk h
  obtain ⟨h, hA⟩ := h
  match as, hk with
  | [], _ =>
    obtain ⟨x, w1, y, w2, hC1, hC2, hI⟩ := il_fault r w [] hr rfl h
    obtain ⟨e1, rfl⟩ := Prod.mk.inj (cm_det hC1 (cx_fault (w := w)))
    cases e1
    obtain ⟨y', w2', hC2', p1, p2⟩ := rx_fault (w := w1)
    obtain ⟨e2, rfl⟩ := Prod.mk.inj (cm_det hC2 hC2')
    cases e2
    refine ⟨_, w1, y, w2, hC1, hC2, ⟨hI, ?_⟩, ?_⟩
    · unfold jFt
      rw [p2 0 3 (by omega), p2 184 15 (by omega)]
      exact hA
    · rw [p1]
      exact Int32.toInt_inj.mp hA
theorem in_valley : jLnf 47 150 0 := by
  intro r w as hr hk h
  obtain ⟨h, -⟩ := h
  match as, hk with
  | [], _ =>
  obtain ⟨x, w1, y, w2, hC1, hC2, hI⟩ := il_valley r w [] hr rfl h
  obtain ⟨h, hT⟩ := h
  obtain ⟨ht, hfl, hRl⟩ := id hT
  obtain ⟨x9, w19, hC19, h1, o1, tx, f1⟩ := ix_valley (w := w) (show r ≤ 4000 by omega) h
  obtain ⟨e1, rfl⟩ := Prod.mk.inj (cm_det hC1 hC19)
  cases e1
  obtain ⟨T, t1, t2, t3⟩ := jTw_T hRl
  have g0 := hb_in (x := w.1 0 1) (lo := 2147483648) (hi := 2147484588) (by have g := h.1 0 1; rw [hs_g1.2.1] at g; exact g)
  obtain ⟨n, hn⟩ : ∃ n : Nat, (w.1 0 1).toInt = (n : Int) := ⟨(w.1 0 1).toInt.toNat, by omega⟩
  obtain ⟨b1, b2, b3, ⟨hh, nm, b4, b5⟩, b6, b7⟩ := id hRl
  obtain ⟨x8, w18, hC18, p1⟩ := vy_ok (w := w) (T := T) (n := n) t1 b2 hn (by omega) h.1
  obtain ⟨e2, rfl⟩ := Prod.mk.inj (cm_det hC1 hC18)
  cases e2
  have hF : vy_W w w1 := by
    rcases p1 with ⟨_, _, _, _, _, g⟩ | ⟨_, _, _, _, _, _, _, _, g⟩
    · exact fun k i q1 q2 q3 q4 => g k i q1 (by omega) (by omega)
    · exact g
  obtain ⟨y8, w28, hC28, p2⟩ := mv_ok (w := w1) (T := T) (n := n) (fun j hj => by rw [(hF 185 j (by omega) (by omega) (by omega) (by omega)).1]; exact t2 j hj) t3 (by rw [o1, ← ht]; exact hn) (by omega) (fun k hk => by rw [(hF 190 k (by omega) (by omega) (by omega) (by omega)).2]; exact b3 k hk)
  obtain ⟨e3, rfl⟩ := Prod.mk.inj (cm_det hC2 hC28)
  cases e3
  refine ⟨x, w1, y, w2, hC1, hC2, hI, ?_⟩
  unfold jFt
  rw [u3_c0 (u3_okc (y := 150) (by decide +kernel) hC2)]
  rcases p1 with ⟨k, q, a1, _, a3, _⟩ | ⟨l, h9, n9, a1, _, _, a3, _⟩
  · rcases p2 with ⟨k', q', c1, _, c3, _⟩ | ⟨l', _, _, c1, _⟩
    · rw [a1] at c1
      cases c1
      exact a3.trans c3.1.symm
    · rw [a1] at c1
      cases c1
  · rcases p2 with ⟨k', q', c1, _⟩ | ⟨l', _, _, c1, _, _, c3, _⟩
    · rw [a1] at c1
      cases c1
    · exact a3.trans c3.symm
theorem in_sentence : jLnf 39 140 0 := by
  intro r w as hr hk h
  obtain ⟨h, -⟩ := h
  match as, hk with
  | [], _ =>
    obtain ⟨x, w1, y, w2, hC1, hC2, hI, -, e⟩ := ie_sentence2 r w hr h
    refine ⟨x, w1, y, w2, hC1, hC2, hI, ?_⟩
    unfold jFt
    rw [u3_c0 (u3_okc (y := 140) (by decide +kernel) hC2)]
    exact e
theorem in_book : jLnf 4 96 1 := by
  intro r w as hr hk h
  obtain ⟨h, hA⟩ := h
  match as, hk with
  | [a], _ =>
  obtain ⟨x, w1, y, w2, hC1, hC2, hI⟩ := il_book r w [a] hr rfl h
  obtain ⟨h, hT⟩ := h
  obtain ⟨ht, hfl, hRl⟩ := id hT
  obtain ⟨x9, w19, hC19, h1, o1, tx, f1⟩ := ix_book (w := w) (a1 := a) (show r ≤ 4000 by omega) h
  obtain ⟨e1, rfl⟩ := Prod.mk.inj (cm_det hC1 hC19)
  cases e1
  obtain ⟨T, t1, t2, t3⟩ := jTw_T hRl
  have g0 := hb_in (x := w.1 0 1) (lo := 2147483648) (hi := 2147484588) (by have g := h.1 0 1; rw [hs_g1.2.1] at g; exact g)
  obtain ⟨n, hn⟩ : ∃ n : Nat, (w.1 0 1).toInt = (n : Int) := ⟨(w.1 0 1).toInt.toNat, by omega⟩
  obtain ⟨b1, b2, b3, ⟨hh, nm, b4, b5⟩, b6, b7⟩ := id hRl
  have u1 := u2_q (u2_ok (y := 4) (by decide +kernel) hC1)
  unfold jFl jQ1 at f1
  unfold jF2 jQ2 at u1
  obtain ⟨x8, w18, hC18, p1⟩ := cbo_ok (w := w) (T := T) (n := n) (k := a) t1 b2 hn (by omega) b4 h.2.2.2.2.1 h.1
  obtain ⟨e2, rfl⟩ := Prod.mk.inj (cm_det hC1 hC18)
  cases e2
  obtain ⟨y8, w28, hC28, p2⟩ := rbk_ok (w := w1) (T := T) (n := n) (h := hh) (nm := nm) (k := a) (fun j hj => by rw [f1 185 j (by omega)]; exact t2 j hj) t3 (by rw [o1, ← ht]; exact hn) (by omega) (fun k hk => by rw [u1 190 k (by omega)]; exact b3 k hk) (mv_R_f2 (fun i hi => f1 186 i (by omega)) (fun i hi => u1 189 i (by omega)) b5) h1.1
  obtain ⟨e3, rfl⟩ := Prod.mk.inj (cm_det hC2 hC28)
  cases e3
  refine ⟨x, w1, y, w2, hC1, hC2, hI, ?_⟩
  unfold jFt
  rw [u3_c0 (u3_okc (y := 96) (by decide +kernel) hC2)]
  rcases p1 with ⟨z1, rfl⟩ | ⟨z1, p1⟩
  · rcases p2 with ⟨_, c1⟩ | ⟨z2, _⟩
    · rw [c1]
      exact hA
    · exact absurd z2 z1
  · rcases p2 with ⟨z2, _⟩ | ⟨_, p2⟩
    · exact absurd z1 z2
    · rcases p1 with ⟨v, a1, a3⟩ | ⟨k, q, a1, a3⟩
      · rcases p2 with ⟨v', c1, c3⟩ | ⟨k', q', c1, _⟩
        · exact a3.trans c3.symm
        · rw [a1] at c1
          cases c1
      · rcases p2 with ⟨v', c1, _⟩ | ⟨k', q', c1, c3⟩
        · rw [a1] at c1
          cases c1
        · rw [a1] at c1
          cases c1
          exact a3.trans c3.symm

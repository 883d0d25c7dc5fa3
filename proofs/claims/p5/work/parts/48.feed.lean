/-! ## by hand: feed, in the class and in the reference -/
theorem wk_cal {y kd i y2 md a b n : Nat} {st as t : List cm_V} (hp : ia_pl (ia_cls y) i = some (1, y2, md, a, b)) (hk : Nat.beq kd md = true) (hn : ia_na y2 = n) (hm : ia_mc y2 = 0 ∧ ia_ms y2 = 0) (has : st = as.reverse ++ t) (hl : as.length = n) (hr : (Nat.beq md 1 || cm_rcv y2 as) = true) (hz : Nat.ble (ia_sz (cm_es t)) 8 = true) : cm_cal y kd i st = some (y2, as, t) := by
  have e1 : (st.take n).reverse = as := by
    rw [has, ← hl, ← List.length_reverse, List.take_left, List.reverse_reverse]
  have e2 : st.drop n = t := by
    rw [has, ← hl, ← List.length_reverse, List.drop_left]
  unfold cm_cal
  rw [hp]
  show ia_if (Nat.ble (ia_na y2) st.length && (Nat.beq kd md && (Nat.ble (ia_sz (cm_es (st.drop (ia_na y2)))) 8 && ((Nat.beq md 1 || cm_rcv y2 (st.take (ia_na y2)).reverse) && (Nat.beq (ia_mc y2) 0 && Nat.beq (ia_ms y2) 0))))) (some (y2, (st.take (ia_na y2)).reverse, st.drop (ia_na y2))) = _
  rw [hn, e1, e2]
  refine cm_ifk ?_ rfl
  have e3 : Nat.ble n st.length = true := Nat.ble_eq.mpr (by rw [has, List.length_append, List.length_reverse, hl]; omega)
  rw [e3, hk, hz, hr, hm.1, hm.2]
  rfl
theorem hs_next {x : Int32} {l : Int} (h : x.toInt = l) (h2 : l < 2147483647) : (x + Int32.ofInt 1).toInt = l + 1 := by
  have e1 : (Int32.ofInt 1).toInt = 1 := by decide
  have e2 := Int32.toInt_add x (Int32.ofInt 1)
  have e3 : -2147483648 ≤ x.toInt := by rw [ia_toInt]; omega
  rw [e1, h] at e2
  rw [e2]
  exact Int.bmod_eq_of_le (by omega) (by omega)
/-- what becomes of the world: the tape's cell c, and its length in slot (n, i) -/
def hs_F (c n i : Nat) (w w' : cm_W) (l : Int) : Prop := (w'.1 n i).toInt = l ∧ (∀ k j, k ≠ c → ¬ (k = n ∧ j = i) → w'.1 k j = w.1 k j) ∧ (∀ k j, w'.2 k j = w.2 k j) ∧ sv_w sg w'
theorem hs_F_step {c n i : Nat} {w w' : cm_W} {l : Int} {q : Nat} {b x : Int32} (hne : n ≠ c) (hG : sv_w sg w) (hb : sv_in (sv_g sg c q) b) (hx : sv_in (sv_g sg n i) x) (h : hs_F c n i (cm_u1 (cm_u1 w c q b) n i x) w' l) : hs_F c n i w w' l := by
  obtain ⟨h1, h2, h3, h4⟩ := h
  refine ⟨h1, fun k j hk hj => ?_, fun k j => h3 k j, h4⟩
  rw [h2 k j hk hj]
  show (if k = n ∧ j = i then x else (if k = c ∧ j = q then b else w.1 k j)) = _
  rw [if_neg hj, if_neg (fun z => hk z.1)]
theorem hs_u1_self {w : cm_W} {n i : Nat} {x : Int32} : (cm_u1 w n i x).1 n i = x := by
  show (if n = n ∧ i = i then x else _) = x
  rw [if_pos ⟨rfl, rfl⟩]
theorem hs_u1_ne {w : cm_W} {n i k j : Nat} {x : Int32} (h : ¬ (k = n ∧ j = i)) : (cm_u1 w n i x).1 k j = w.1 k j := by
  show (if k = n ∧ j = i then x else w.1 k j) = _
  rw [if_neg h]
theorem hs_E {x : Int32} {l : Int} (h : x.toInt = l) : (ia_E x : Int) = l + 2147483648 := by
  rw [← h, ia_toInt]
  omega
theorem hs_F_trans {c n i : Nat} {w w1 w2 : cm_W} {l1 l2 : Int} (h1 : hs_F c n i w w1 l1) (h2 : hs_F c n i w1 w2 l2) : hs_F c n i w w2 l2 := ⟨h2.1, fun k j hk hj => (h2.2.1 k j hk hj).trans (h1.2.1 k j hk hj), fun k j => (h2.2.2.1 k j).trans (h1.2.2.1 k j), h2.2.2.2⟩
theorem hs_k8 {k : Int32} {m : Nat} (hk : k.toInt = 8 * ((m + 1 : Nat) : Int) - 8) (hm : m + 1 ≤ 4) : (k + Int32.ofInt (-8)).toInt = 8 * (m : Int) - 8 := by
  have e1 : (Int32.ofInt (-8)).toInt = -8 := by decide
  rw [Int32.toInt_add, e1, hk]
  rw [show (8 * ((m + 1 : Nat) : Int) - 8 + -8) = 8 * (m : Int) - 8 from by omega]
  exact Int.bmod_eq_of_le (by omega) (by omega)
set_option maxRecDepth 100000 in
theorem hs_g1 : sv_gr sg 1 = [(99999, 2147483648, 2147483903)] ∧ sv_g sg 0 1 = (2147483648, 2147484588) ∧ sv_gr sg 185 = [] ∧ sv_g sg 184 2 = (2147483648, 2147484588) ∧ sv_g sg 184 0 = (2147483648, 2147483649) := ⟨by decide +kernel, by decide +kernel, by decide +kernel, by decide +kernel, by decide +kernel⟩
set_option maxRecDepth 100000 in
theorem hs_putX_d : decode (ia_code 36) 0 = .ok (.bipush 24, 2) ∧ decode (ia_code 36) 2 = .ok (.istore_n 2, 1) ∧ decode (ia_code 36) 3 = .ok (.iload_n 2, 1) ∧ decode (ia_code 36) 4 = .ok (.ifCond .lt 35, 3) ∧ decode (ia_code 36) 7 = .ok (.aload_n 0, 1) ∧ decode (ia_code 36) 8 = .ok (.getfield 9, 3) ∧ decode (ia_code 36) 11 = .ok (.aload_n 0, 1) ∧ decode (ia_code 36) 12 = .ok (.getfield 105, 3) ∧ decode (ia_code 36) 15 = .ok (.iload_n 1, 1) ∧ decode (ia_code 36) 16 = .ok (.iload_n 2, 1) ∧ decode (ia_code 36) 17 = .ok (.iushr, 1) ∧ decode (ia_code 36) 18 = .ok (.sipush 255, 3) ∧ decode (ia_code 36) 21 = .ok (.iand, 1) ∧ decode (ia_code 36) 22 = .ok (.iastore, 1) ∧ decode (ia_code 36) 23 = .ok (.aload_n 0, 1) ∧ decode (ia_code 36) 24 = .ok (.dup, 1) ∧ decode (ia_code 36) 25 = .ok (.getfield 105, 3) ∧ decode (ia_code 36) 28 = .ok (.iconst 1, 1) ∧ decode (ia_code 36) 29 = .ok (.iadd, 1) ∧ decode (ia_code 36) 30 = .ok (.putfield 105, 3) ∧ decode (ia_code 36) 33 = .ok (.iinc 2 (-8), 3) ∧ decode (ia_code 36) 36 = .ok (.goto (-33), 3) ∧ decode (ia_code 36) 39 = .ok (.return_, 1) := by
  refine ⟨?_, ?_, ?_, ?_, ?_, ?_, ?_, ?_, ?_, ?_, ?_, ?_, ?_, ?_, ?_, ?_, ?_, ?_, ?_, ?_, ?_, ?_, ?_⟩ <;> decide +kernel
set_option maxRecDepth 100000 in
theorem hs_putX_m : ia_maxL 36 = 3 ∧ ia_ret 36 = none ∧ wk_gf 36 9 0 0 (1 + 3) = true ∧ wk_gf 36 105 0 1 0 = true ∧ wk_pf 36 105 0 1 0 = true ∧ wk_ar 1 50 940 = true := ⟨by decide +kernel, by decide +kernel, by decide +kernel, by decide +kernel, by decide +kernel, by decide +kernel⟩
theorem hs_putX_loop (v : Int32) (Q : cm_O → Prop) : ∀ (m : Nat) (k : Int32) (w : cm_W) (l : Int), m ≤ 4 → k.toInt = 8 * (m : Int) - 8 → (w.1 0 1).toInt = l → 0 ≤ l → l + m ≤ 940 → sv_w sg w → (∀ w', hs_F 1 0 1 w w' (l + m) → Q (none, w')) → cm_X (cm_C 0) 36 3 [some (.inr (.inr (some 0))), some (.inl v), some (.inl k)] [] w Q := by
  obtain ⟨d0, d2, d3, d4, d7, d8, d11, d12, d15, d16, d17, d18, d21, d22, d23, d24, d25, d28, d29, d30, d33, d36, d39⟩ := hs_putX_d
  obtain ⟨m1, m2, m3, m4, m5, m6⟩ := hs_putX_m
  obtain ⟨g1, g2, g3, g4, g5⟩ := hs_g1
  intro m
  induction m with
  | zero =>
    intro k w l _ hk hl h0 h1 hG hQ
    refine wk_iload_n d3 rfl ?_
    refine wk_if d4 (t := 39) rfl (fun _ => ?_) (fun hc => ?_)
    · exact wk_return d39 m2 (hQ w ⟨by rw [hl]; omega, fun _ _ _ _ => rfl, fun _ _ => rfl, hG⟩)
    · exfalso
      have : ¬ k < 0 := of_decide_eq_false hc
      rw [Int32.lt_iff_toInt_lt] at this
      have e0 : (0 : Int32).toInt = 0 := by decide
      omega
  | succ m ih =>
    intro k w l hm4 hk hl h0 h1 hG hQ
    refine wk_iload_n d3 rfl ?_
    refine wk_if d4 (t := 39) rfl (fun hc => ?_) (fun _ => ?_)
    · exfalso
      have : k < 0 := of_decide_eq_true hc
      rw [Int32.lt_iff_toInt_lt] at this
      have e0 : (0 : Int32).toInt = 0 := by decide
      omega
    · refine wk_aload_n d7 rfl ?_
      refine wk_getR m3 d8 ?_
      refine wk_aload_n d11 rfl ?_
      refine wk_getI m4 d12 ?_
      refine wk_iload_n d15 rfl ?_
      refine wk_iload_n d16 rfl ?_
      refine wk_iushr d17 ?_
      refine wk_sipush d18 ?_
      refine wk_iand d21 ?_
      refine wk_iastore m6 (by rw [hl]; exact h0) (by rw [hl]; omega) d22 ?_
      refine wk_aload_n d23 rfl ?_
      refine wk_dup_r d24 ?_
      refine wk_getI m4 d25 ?_
      refine wk_iconst d28 ?_
      refine wk_iadd d29 ?_
      refine wk_putI m5 (fun ci => wk_fitI ci) d30 ?_
      refine wk_iinc d33 (by rw [m1]; rfl) rfl rfl ?_
      refine wk_goto d36 (t := 3) rfl ?_
      have hb : sv_in (sv_g sg 1 (w.1 0 1).toInt.toNat) ((v.toUInt32 >>> (k.toUInt32 &&& Int32.toUInt32 31)).toInt32 &&& (Int16.ofInt 255).toInt32) := by
        have hg : sv_g sg 1 (w.1 0 1).toInt.toNat = (2147483648, 2147483903) := by
          unfold sv_g
          rw [g1]
          show cond (Nat.blt (w.1 0 1).toInt.toNat 99999) (2147483648, 2147483903) sv_top = _
          rw [show Nat.blt (w.1 0 1).toInt.toNat 99999 = true from Nat.ble_eq.mpr (show (w.1 0 1).toInt.toNat < 99999 from by rw [hl]; omega)]
          rfl
        rw [hg]
        have e1 : ia_E ((Int16.ofInt 255).toInt32) = 2147483903 := by decide
        exact sv_and0_ok sv_top (2147483903, 2147483903) _ _ (sv_in_top _) ⟨Nat.le_of_eq e1.symm, Nat.le_of_eq e1⟩
      have hne : (cm_u1 w 1 (w.1 0 1).toInt.toNat ((v.toUInt32 >>> (k.toUInt32 &&& Int32.toUInt32 31)).toInt32 &&& (Int16.ofInt 255).toInt32)).1 0 1 = w.1 0 1 := hs_u1_ne (fun z => absurd z.1 (by decide))
      rw [hne]
      have hx := hs_next hl (by omega)
      have hxe := hs_E hx
      have hin : sv_in (sv_g sg 0 1) (w.1 0 1 + Int32.ofInt 1) := by
        rw [g2]
        exact ⟨by show 2147483648 ≤ ia_E _; omega, by show ia_E _ ≤ 2147484588; omega⟩
      refine ih _ _ (l + 1) (by omega) (hs_k8 hk hm4) (by rw [hs_u1_self]; exact hx) (by omega) (by omega) (sv_w_u1 (sv_w_u1 hG hb) hin) (fun w' hF => hQ w' ?_)
      rw [show l + ((m + 1 : Nat) : Int) = l + 1 + (m : Int) from by omega]
      exact hs_F_step (by decide) hG hb hin hF
theorem hs_putX (v : Int32) (w : cm_W) (l : Int) (hl : (w.1 0 1).toInt = l) (h0 : 0 ≤ l) (h1 : l + 4 ≤ 940) (hG : sv_w sg w) : ∃ w', cm_C 1 36 [.inr (.inr (some 0)), .inl v] w (none, w') ∧ hs_F 1 0 1 w w' (l + 4) := by
  obtain ⟨d0, d2, d3, d4, d7, d8, d11, d12, d15, d16, d17, d18, d21, d22, d23, d24, d25, d28, d29, d30, d33, d36, d39⟩ := hs_putX_d
  obtain ⟨m1, m2, m3, m4, m5, m6⟩ := hs_putX_m
  have hent : cm_ent 36 [.inr (.inr (some 0)), .inl v] = [some (.inr (.inr (some 0))), some (.inl v), none] := by
    unfold cm_ent
    rw [m1]
    rfl
  have h : ∃ o, cm_C (0 + 1) 36 [.inr (.inr (some 0)), .inl v] w o ∧ (fun o : cm_O => ∃ w', o = (none, w') ∧ hs_F 1 0 1 w w' (l + 4)) o := by
    refine wk_entry (by rw [m1]; exact Nat.le_of_ble_eq_true rfl) ?_
    rw [hent]
    refine wk_bipush d0 ?_
    refine wk_istore_n d2 (by rw [m1]; rfl) rfl ?_
    exact hs_putX_loop v _ 4 _ w l (Nat.le_refl _) (by decide) hl h0 h1 hG (fun w' hF => ⟨w', rfl, hF⟩)
  obtain ⟨o, hC, w', rfl, hF⟩ := h
  exact ⟨w', hC, hF⟩
set_option maxRecDepth 100000 in
theorem hs_feedX_d : decode (ia_code 13) 0 = .ok (.aload_n 0, 1) ∧ decode (ia_code 13) 1 = .ok (.getfield 105, 3) ∧ decode (ia_code 13) 4 = .ok (.bipush 20, 2) ∧ decode (ia_code 13) 6 = .ok (.iadd, 1) ∧ decode (ia_code 13) 7 = .ok (.sipush 940, 3) ∧ decode (ia_code 13) 10 = .ok (.if_icmp .le 5, 3) ∧ decode (ia_code 13) 13 = .ok (.iconst (-1), 1) ∧ decode (ia_code 13) 14 = .ok (.ireturn, 1) ∧ decode (ia_code 13) 15 = .ok (.aload_n 0, 1) ∧ decode (ia_code 13) 16 = .ok (.iload_n 1, 1) ∧ decode (ia_code 13) 17 = .ok (.invokevirtual 109, 3) ∧ decode (ia_code 13) 20 = .ok (.aload_n 0, 1) ∧ decode (ia_code 13) 21 = .ok (.iload_n 2, 1) ∧ decode (ia_code 13) 22 = .ok (.invokevirtual 109, 3) ∧ decode (ia_code 13) 25 = .ok (.aload_n 0, 1) ∧ decode (ia_code 13) 26 = .ok (.iload_n 3, 1) ∧ decode (ia_code 13) 27 = .ok (.invokevirtual 109, 3) ∧ decode (ia_code 13) 30 = .ok (.aload_n 0, 1) ∧ decode (ia_code 13) 31 = .ok (.iload 4, 2) ∧ decode (ia_code 13) 33 = .ok (.invokevirtual 109, 3) ∧ decode (ia_code 13) 36 = .ok (.aload_n 0, 1) ∧ decode (ia_code 13) 37 = .ok (.iload 5, 2) ∧ decode (ia_code 13) 39 = .ok (.invokevirtual 109, 3) ∧ decode (ia_code 13) 42 = .ok (.aload_n 0, 1) ∧ decode (ia_code 13) 43 = .ok (.getfield 105, 3) ∧ decode (ia_code 13) 46 = .ok (.ireturn, 1) := by
  refine ⟨?_, ?_, ?_, ?_, ?_, ?_, ?_, ?_, ?_, ?_, ?_, ?_, ?_, ?_, ?_, ?_, ?_, ?_, ?_, ?_, ?_, ?_, ?_, ?_, ?_, ?_⟩ <;> decide +kernel
set_option maxRecDepth 100000 in
theorem hs_feedX_m : ia_maxL 13 = 6 ∧ ia_ret 13 = some .int ∧ wk_gf 13 105 0 1 0 = true ∧ ia_pl (ia_cls 13) 109 = some (1, 36, 0, 0, 695) ∧ ia_na 36 = 2 ∧ ia_mc 36 = 0 ∧ ia_ms 36 = 0 ∧ cm_rcv 36 [.inr (.inr (some 0)), .inl 0] = true := ⟨by decide +kernel, by decide +kernel, by decide +kernel, by decide +kernel, by decide +kernel, by decide +kernel, by decide +kernel, by decide +kernel⟩
theorem hs_feedX (a b c d e : Int32) (w : cm_W) (hG : sv_w sg w) : ∃ r w', cm_C 2 13 [.inr (.inr (some 0)), .inl a, .inl b, .inl c, .inl d, .inl e] w (some (.inl r), w') ∧ ((w.1 0 1).toInt ≤ 920 → r.toInt = (w.1 0 1).toInt + 20 ∧ hs_F 1 0 1 w w' ((w.1 0 1).toInt + 20)) ∧ (920 < (w.1 0 1).toInt → r = -1 ∧ w' = w) := by
  obtain ⟨d0, d1, d4, d6, d7, d10, d13, d14, d15, d16, d17, d20, d21, d22, d25, d26, d27, d30, d31, d33, d36, d37, d39, d42, d43, d46⟩ := hs_feedX_d
  obtain ⟨m1, m2, m3, m4, m5, m6, m7, m8⟩ := hs_feedX_m
  obtain ⟨g1, g2, g3, g4, g5⟩ := hs_g1
  have hb0 := hG 0 1
  rw [g2] at hb0
  obtain ⟨l, hl⟩ : ∃ l, l = (w.1 0 1).toInt := ⟨_, rfl⟩
  have hbE := hs_E hl.symm
  have hlo : 0 ≤ l := by have h9 : 2147483648 ≤ ia_E (w.1 0 1) := hb0.1; omega
  have hhi : l ≤ 940 := by have h9 : ia_E (w.1 0 1) ≤ 2147484588 := hb0.2; omega
  rw [← hl]
  have hw0 : (w.1 0 1).toInt = l := hl.symm
  have hG0 : sv_w sg w := hG
  have hent : cm_ent 13 [.inr (.inr (some 0)), .inl a, .inl b, .inl c, .inl d, .inl e] = [some (.inr (.inr (some 0))), some (.inl a), some (.inl b), some (.inl c), some (.inl d), some (.inl e)] := by
    unfold cm_ent
    rw [m1]
    rfl
  have e20 : (w.1 0 1 + (Int8.ofInt 20).toInt32).toInt = l + 20 := by
    have e1 : ((Int8.ofInt 20).toInt32).toInt = 20 := by decide
    rw [Int32.toInt_add, e1, hw0]
    exact Int.bmod_eq_of_le (by omega) (by omega)
  have e940 : ((Int16.ofInt 940).toInt32).toInt = 940 := by decide
  have h : ∃ o, cm_C (1 + 1) 13 [.inr (.inr (some 0)), .inl a, .inl b, .inl c, .inl d, .inl e] w o ∧ (fun o : cm_O => ∃ r w', o = (some (.inl r), w') ∧ (l ≤ 920 → r.toInt = l + 20 ∧ hs_F 1 0 1 w w' (l + 20)) ∧ (920 < l → r = -1 ∧ w' = w)) o := by
    refine wk_entry (by rw [m1]; exact Nat.le_of_ble_eq_true rfl) ?_
    rw [hent]
    refine wk_aload_n d0 rfl ?_
    refine wk_getI m3 d1 ?_
    refine wk_bipush d4 ?_
    refine wk_iadd d6 ?_
    refine wk_sipush d7 ?_
    refine wk_icmp d10 (t := 15) rfl (fun hc => ?_) (fun hc => ?_)
    rotate_left
    · have hlt : ¬ ¬ (Int16.ofInt 940).toInt32 < w.1 0 1 + (Int8.ofInt 20).toInt32 := fun z => by
        have hc' : (!(decide ((Int16.ofInt 940).toInt32 < w.1 0 1 + (Int8.ofInt 20).toInt32))) = false := hc
        rw [decide_eq_false z] at hc'
        cases hc'
      rw [Decidable.not_not, Int32.lt_iff_toInt_lt, e20, e940] at hlt
      refine wk_iconst d13 ?_
      exact wk_ireturn d14 m2 rfl ⟨_, _, rfl, fun z => absurd z (by omega), fun _ => ⟨rfl, rfl⟩⟩
    have hle : ¬ (Int16.ofInt 940).toInt32 < w.1 0 1 + (Int8.ofInt 20).toInt32 := fun z => by
      have hc' : (!(decide ((Int16.ofInt 940).toInt32 < w.1 0 1 + (Int8.ofInt 20).toInt32))) = true := hc
      rw [decide_eq_true z] at hc'
      cases hc'
    rw [Int32.lt_iff_toInt_lt, e20, e940] at hle
    refine wk_aload_n d15 rfl ?_
    refine wk_iload_n d16 rfl ?_
    obtain ⟨w1, hC1, hF1⟩ := hs_putX a w (l + 0) (by rw [hw0]; omega) (by omega) (by omega) hG0
    refine wk_call (kd := 0) (i := 109) d17 rfl (wk_cal (as := [.inr (.inr (some 0)), .inl a]) (t := []) m4 rfl m5 ⟨m6, m7⟩ rfl rfl m8 rfl) hC1 ?_
    refine wk_aload_n d20 rfl ?_
    refine wk_iload_n d21 rfl ?_
    obtain ⟨w2, hC2, hF2⟩ := hs_putX b w1 (l + 4) (by rw [hF1.1]; omega) (by omega) (by omega) hF1.2.2.2
    refine wk_call (kd := 0) (i := 109) d22 rfl (wk_cal (as := [.inr (.inr (some 0)), .inl b]) (t := []) m4 rfl m5 ⟨m6, m7⟩ rfl rfl m8 rfl) hC2 ?_
    refine wk_aload_n d25 rfl ?_
    refine wk_iload_n d26 rfl ?_
    obtain ⟨w3, hC3, hF3⟩ := hs_putX c w2 (l + 8) (by rw [hF2.1]; omega) (by omega) (by omega) hF2.2.2.2
    refine wk_call (kd := 0) (i := 109) d27 rfl (wk_cal (as := [.inr (.inr (some 0)), .inl c]) (t := []) m4 rfl m5 ⟨m6, m7⟩ rfl rfl m8 rfl) hC3 ?_
    refine wk_aload_n d30 rfl ?_
    refine wk_iload d31 rfl ?_
    obtain ⟨w4, hC4, hF4⟩ := hs_putX d w3 (l + 12) (by rw [hF3.1]; omega) (by omega) (by omega) hF3.2.2.2
    refine wk_call (kd := 0) (i := 109) d33 rfl (wk_cal (as := [.inr (.inr (some 0)), .inl d]) (t := []) m4 rfl m5 ⟨m6, m7⟩ rfl rfl m8 rfl) hC4 ?_
    refine wk_aload_n d36 rfl ?_
    refine wk_iload d37 rfl ?_
    obtain ⟨w5, hC5, hF5⟩ := hs_putX e w4 (l + 16) (by rw [hF4.1]; omega) (by omega) (by omega) hF4.2.2.2
    refine wk_call (kd := 0) (i := 109) d39 rfl (wk_cal (as := [.inr (.inr (some 0)), .inl e]) (t := []) m4 rfl m5 ⟨m6, m7⟩ rfl rfl m8 rfl) hC5 ?_
    refine wk_aload_n d42 rfl ?_
    refine wk_getI m3 d43 ?_
    exact wk_ireturn d46 m2 rfl ⟨_, w5, rfl, fun _ => ⟨by rw [hF5.1]; omega, by
      have := hs_F_trans hF1 (hs_F_trans hF2 (hs_F_trans hF3 (hs_F_trans hF4 hF5)))
      rw [show l + 20 = l + 16 + 4 from by omega]
      exact this⟩, fun z => absurd z (by omega)⟩
  obtain ⟨o, hC, r, w', rfl, h1, h2⟩ := h
  exact ⟨r, w', hC, h1, h2⟩
set_option maxRecDepth 100000 in
theorem hs_putM_d : decode (ia_code 107) 0 = .ok (.bipush 24, 2) ∧ decode (ia_code 107) 2 = .ok (.istore_n 2, 1) ∧ decode (ia_code 107) 3 = .ok (.iload_n 2, 1) ∧ decode (ia_code 107) 4 = .ok (.ifCond .lt 32, 3) ∧ decode (ia_code 107) 7 = .ok (.aload_n 0, 1) ∧ decode (ia_code 107) 8 = .ok (.getfield 14, 3) ∧ decode (ia_code 107) 11 = .ok (.aload_n 0, 1) ∧ decode (ia_code 107) 12 = .ok (.getfield 7, 3) ∧ decode (ia_code 107) 15 = .ok (.iload_n 1, 1) ∧ decode (ia_code 107) 16 = .ok (.iload_n 2, 1) ∧ decode (ia_code 107) 17 = .ok (.ishr, 1) ∧ decode (ia_code 107) 18 = .ok (.i2b, 1) ∧ decode (ia_code 107) 19 = .ok (.bastore, 1) ∧ decode (ia_code 107) 20 = .ok (.aload_n 0, 1) ∧ decode (ia_code 107) 21 = .ok (.dup, 1) ∧ decode (ia_code 107) 22 = .ok (.getfield 7, 3) ∧ decode (ia_code 107) 25 = .ok (.iconst 1, 1) ∧ decode (ia_code 107) 26 = .ok (.iadd, 1) ∧ decode (ia_code 107) 27 = .ok (.putfield 7, 3) ∧ decode (ia_code 107) 30 = .ok (.iinc 2 (-8), 3) ∧ decode (ia_code 107) 33 = .ok (.goto (-30), 3) ∧ decode (ia_code 107) 36 = .ok (.return_, 1) := by
  refine ⟨?_, ?_, ?_, ?_, ?_, ?_, ?_, ?_, ?_, ?_, ?_, ?_, ?_, ?_, ?_, ?_, ?_, ?_, ?_, ?_, ?_, ?_⟩ <;> decide +kernel
set_option maxRecDepth 100000 in
theorem hs_putM_m : ia_maxL 107 = 3 ∧ ia_ret 107 = none ∧ wk_gf 107 14 184 1 (185 + 3) = true ∧ wk_gf 107 7 184 2 0 = true ∧ wk_pf 107 7 184 2 0 = true ∧ wk_ar 185 52 940 = true := ⟨by decide +kernel, by decide +kernel, by decide +kernel, by decide +kernel, by decide +kernel, by decide +kernel⟩
theorem hs_putM_loop (v : Int32) (Q : cm_O → Prop) : ∀ (m : Nat) (k : Int32) (w : cm_W) (l : Int), m ≤ 4 → k.toInt = 8 * (m : Int) - 8 → (w.1 184 2).toInt = l → 0 ≤ l → l + m ≤ 940 → sv_w sg w → (∀ w', hs_F 185 184 2 w w' (l + m) → Q (none, w')) → cm_X (cm_C 0) 107 3 [some (.inr (.inr (some 184))), some (.inl v), some (.inl k)] [] w Q := by
  obtain ⟨d0, d2, d3, d4, d7, d8, d11, d12, d15, d16, d17, d18, d19, d20, d21, d22, d25, d26, d27, d30, d33, d36⟩ := hs_putM_d
  obtain ⟨m1, m2, m3, m4, m5, m6⟩ := hs_putM_m
  obtain ⟨g1, g2, g3, g4, g5⟩ := hs_g1
  intro m
  induction m with
  | zero =>
    intro k w l _ hk hl h0 h1 hG hQ
    refine wk_iload_n d3 rfl ?_
    refine wk_if d4 (t := 36) rfl (fun _ => ?_) (fun hc => ?_)
    · exact wk_return d36 m2 (hQ w ⟨by rw [hl]; omega, fun _ _ _ _ => rfl, fun _ _ => rfl, hG⟩)
    · exfalso
      have : ¬ k < 0 := of_decide_eq_false hc
      rw [Int32.lt_iff_toInt_lt] at this
      have e0 : (0 : Int32).toInt = 0 := by decide
      omega
  | succ m ih =>
    intro k w l hm4 hk hl h0 h1 hG hQ
    refine wk_iload_n d3 rfl ?_
    refine wk_if d4 (t := 36) rfl (fun hc => ?_) (fun _ => ?_)
    · exfalso
      have : k < 0 := of_decide_eq_true hc
      rw [Int32.lt_iff_toInt_lt] at this
      have e0 : (0 : Int32).toInt = 0 := by decide
      omega
    · refine wk_aload_n d7 rfl ?_
      refine wk_getR m3 d8 ?_
      refine wk_aload_n d11 rfl ?_
      refine wk_getI m4 d12 ?_
      refine wk_iload_n d15 rfl ?_
      refine wk_iload_n d16 rfl ?_
      refine wk_ishr d17 ?_
      refine wk_i2b d18 ?_
      refine wk_as (tg := 52) (g := vp_nar .byte) m6 (by rw [hl]; exact h0) (by rw [hl]; omega) d19 rfl ?_
      refine wk_aload_n d20 rfl ?_
      refine wk_dup_r d21 ?_
      refine wk_getI m4 d22 ?_
      refine wk_iconst d25 ?_
      refine wk_iadd d26 ?_
      refine wk_putI m5 (fun ci => wk_fitI ci) d27 ?_
      refine wk_iinc d30 (by rw [m1]; rfl) rfl rfl ?_
      refine wk_goto d33 (t := 3) rfl ?_
      have hb : sv_in (sv_g sg 185 (w.1 184 2).toInt.toNat) (vp_nar .byte (v >>> (k &&& 31)).toInt8.toInt32) := by
        have hg : sv_g sg 185 (w.1 184 2).toInt.toNat = sv_top := by
          unfold sv_g
          rw [g3]
          rfl
        rw [hg]
        exact sv_in_top _
      have hne : (cm_u1 w 185 (w.1 184 2).toInt.toNat (vp_nar .byte (v >>> (k &&& 31)).toInt8.toInt32)).1 184 2 = w.1 184 2 := hs_u1_ne (fun z => absurd z.1 (by decide))
      rw [hne]
      have hx := hs_next hl (by omega)
      have hxe := hs_E hx
      have hin : sv_in (sv_g sg 184 2) (w.1 184 2 + Int32.ofInt 1) := by
        rw [g4]
        exact ⟨by show 2147483648 ≤ ia_E _; omega, by show ia_E _ ≤ 2147484588; omega⟩
      refine ih _ _ (l + 1) (by omega) (hs_k8 hk hm4) (by rw [hs_u1_self]; exact hx) (by omega) (by omega) (sv_w_u1 (sv_w_u1 hG hb) hin) (fun w' hF => hQ w' ?_)
      rw [show l + ((m + 1 : Nat) : Int) = l + 1 + (m : Int) from by omega]
      exact hs_F_step (by decide) hG hb hin hF
theorem hs_putM (v : Int32) (w : cm_W) (l : Int) (hl : (w.1 184 2).toInt = l) (h0 : 0 ≤ l) (h1 : l + 4 ≤ 940) (hG : sv_w sg w) : ∃ w', cm_C 1 107 [.inr (.inr (some 184)), .inl v] w (none, w') ∧ hs_F 185 184 2 w w' (l + 4) := by
  obtain ⟨d0, d2, d3, d4, d7, d8, d11, d12, d15, d16, d17, d18, d19, d20, d21, d22, d25, d26, d27, d30, d33, d36⟩ := hs_putM_d
  obtain ⟨m1, m2, m3, m4, m5, m6⟩ := hs_putM_m
  have hent : cm_ent 107 [.inr (.inr (some 184)), .inl v] = [some (.inr (.inr (some 184))), some (.inl v), none] := by
    unfold cm_ent
    rw [m1]
    rfl
  have h : ∃ o, cm_C (0 + 1) 107 [.inr (.inr (some 184)), .inl v] w o ∧ (fun o : cm_O => ∃ w', o = (none, w') ∧ hs_F 185 184 2 w w' (l + 4)) o := by
    refine wk_entry (by rw [m1]; exact Nat.le_of_ble_eq_true rfl) ?_
    rw [hent]
    refine wk_bipush d0 ?_
    refine wk_istore_n d2 (by rw [m1]; rfl) rfl ?_
    exact hs_putM_loop v _ 4 _ w l (Nat.le_refl _) (by decide) hl h0 h1 hG (fun w' hF => ⟨w', rfl, hF⟩)
  obtain ⟨o, hC, w', rfl, hF⟩ := h
  exact ⟨w', hC, hF⟩
set_option maxRecDepth 100000 in
theorem hs_feedM_d : decode (ia_code 105) 0 = .ok (.aload_n 0, 1) ∧ decode (ia_code 105) 1 = .ok (.iconst 0, 1) ∧ decode (ia_code 105) 2 = .ok (.putfield 1, 3) ∧ decode (ia_code 105) 5 = .ok (.aload_n 0, 1) ∧ decode (ia_code 105) 6 = .ok (.getfield 7, 3) ∧ decode (ia_code 105) 9 = .ok (.bipush 20, 2) ∧ decode (ia_code 105) 11 = .ok (.iadd, 1) ∧ decode (ia_code 105) 12 = .ok (.sipush 940, 3) ∧ decode (ia_code 105) 15 = .ok (.if_icmp .le 5, 3) ∧ decode (ia_code 105) 18 = .ok (.iconst (-1), 1) ∧ decode (ia_code 105) 19 = .ok (.ireturn, 1) ∧ decode (ia_code 105) 20 = .ok (.aload_n 0, 1) ∧ decode (ia_code 105) 21 = .ok (.iload_n 1, 1) ∧ decode (ia_code 105) 22 = .ok (.invokevirtual 10, 3) ∧ decode (ia_code 105) 25 = .ok (.aload_n 0, 1) ∧ decode (ia_code 105) 26 = .ok (.iload_n 2, 1) ∧ decode (ia_code 105) 27 = .ok (.invokevirtual 10, 3) ∧ decode (ia_code 105) 30 = .ok (.aload_n 0, 1) ∧ decode (ia_code 105) 31 = .ok (.iload_n 3, 1) ∧ decode (ia_code 105) 32 = .ok (.invokevirtual 10, 3) ∧ decode (ia_code 105) 35 = .ok (.aload_n 0, 1) ∧ decode (ia_code 105) 36 = .ok (.iload 4, 2) ∧ decode (ia_code 105) 38 = .ok (.invokevirtual 10, 3) ∧ decode (ia_code 105) 41 = .ok (.aload_n 0, 1) ∧ decode (ia_code 105) 42 = .ok (.iload 5, 2) ∧ decode (ia_code 105) 44 = .ok (.invokevirtual 10, 3) ∧ decode (ia_code 105) 47 = .ok (.aload_n 0, 1) ∧ decode (ia_code 105) 48 = .ok (.getfield 7, 3) ∧ decode (ia_code 105) 51 = .ok (.ireturn, 1) := by
  refine ⟨?_, ?_, ?_, ?_, ?_, ?_, ?_, ?_, ?_, ?_, ?_, ?_, ?_, ?_, ?_, ?_, ?_, ?_, ?_, ?_, ?_, ?_, ?_, ?_, ?_, ?_, ?_, ?_, ?_⟩ <;> decide +kernel
set_option maxRecDepth 100000 in
theorem hs_feedM_m : ia_maxL 105 = 6 ∧ ia_ret 105 = some .int ∧ wk_gf 105 7 184 2 0 = true ∧ ia_pl (ia_cls 105) 10 = some (1, 107, 0, 0, 1456) ∧ ia_na 107 = 2 ∧ ia_mc 107 = 0 ∧ ia_ms 107 = 0 ∧ cm_rcv 107 [.inr (.inr (some 184)), .inl 0] = true ∧ wk_pf 105 1 184 0 0 = true := ⟨by decide +kernel, by decide +kernel, by decide +kernel, by decide +kernel, by decide +kernel, by decide +kernel, by decide +kernel, by decide +kernel, by decide +kernel⟩
theorem hs_feedM (a b c d e : Int32) (w : cm_W) (hG : sv_w sg w) : ∃ r w', cm_C 2 105 [.inr (.inr (some 184)), .inl a, .inl b, .inl c, .inl d, .inl e] w (some (.inl r), w') ∧ ((w.1 184 2).toInt ≤ 920 → r.toInt = (w.1 184 2).toInt + 20 ∧ hs_F 185 184 2 (cm_u1 w 184 0 (Int32.ofInt 0)) w' ((w.1 184 2).toInt + 20)) ∧ (920 < (w.1 184 2).toInt → r = -1 ∧ w' = (cm_u1 w 184 0 (Int32.ofInt 0))) := by
  obtain ⟨d0, d1, d2, d5, d6, d9, d11, d12, d15, d18, d19, d20, d21, d22, d25, d26, d27, d30, d31, d32, d35, d36, d38, d41, d42, d44, d47, d48, d51⟩ := hs_feedM_d
  obtain ⟨m1, m2, m3, m4, m5, m6, m7, m8, m9⟩ := hs_feedM_m
  obtain ⟨g1, g2, g3, g4, g5⟩ := hs_g1
  have hb0 := hG 184 2
  rw [g4] at hb0
  obtain ⟨l, hl⟩ : ∃ l, l = (w.1 184 2).toInt := ⟨_, rfl⟩
  have hbE := hs_E hl.symm
  have hlo : 0 ≤ l := by have h9 : 2147483648 ≤ ia_E (w.1 184 2) := hb0.1; omega
  have hhi : l ≤ 940 := by have h9 : ia_E (w.1 184 2) ≤ 2147484588 := hb0.2; omega
  rw [← hl]
  obtain ⟨w0, ew0⟩ : ∃ w0, w0 = (cm_u1 w 184 0 (Int32.ofInt 0)) := ⟨_, rfl⟩
  have hw0 : (w0.1 184 2).toInt = l := by
    rw [ew0, hs_u1_ne (fun z => absurd z.2 (by decide))]
    exact hl.symm
  have hG0 : sv_w sg w0 := by
    rw [ew0]
    have e0 : ia_E (Int32.ofInt 0) = 2147483648 := by decide
    exact sv_w_u1 hG (by rw [g5]; exact ⟨Nat.le_of_eq e0.symm, by show ia_E _ ≤ 2147483649; omega⟩)
  rw [← ew0]
  have hent : cm_ent 105 [.inr (.inr (some 184)), .inl a, .inl b, .inl c, .inl d, .inl e] = [some (.inr (.inr (some 184))), some (.inl a), some (.inl b), some (.inl c), some (.inl d), some (.inl e)] := by
    unfold cm_ent
    rw [m1]
    rfl
  have e20 : (w0.1 184 2 + (Int8.ofInt 20).toInt32).toInt = l + 20 := by
    have e1 : ((Int8.ofInt 20).toInt32).toInt = 20 := by decide
    rw [Int32.toInt_add, e1, hw0]
    exact Int.bmod_eq_of_le (by omega) (by omega)
  have e940 : ((Int16.ofInt 940).toInt32).toInt = 940 := by decide
  have h : ∃ o, cm_C (1 + 1) 105 [.inr (.inr (some 184)), .inl a, .inl b, .inl c, .inl d, .inl e] w o ∧ (fun o : cm_O => ∃ r w', o = (some (.inl r), w') ∧ (l ≤ 920 → r.toInt = l + 20 ∧ hs_F 185 184 2 w0 w' (l + 20)) ∧ (920 < l → r = -1 ∧ w' = w0)) o := by
    refine wk_entry (by rw [m1]; exact Nat.le_of_ble_eq_true rfl) ?_
    rw [hent]
    refine wk_aload_n d0 rfl ?_
    refine wk_iconst d1 ?_
    refine wk_putI m9 (fun ci => wk_fitI ci) d2 ?_
    refine wk_aload_n d5 rfl ?_
    refine wk_getI m3 d6 ?_
    refine wk_bipush d9 ?_
    refine wk_iadd d11 ?_
    refine wk_sipush d12 ?_
    rw [← ew0]
    refine wk_icmp d15 (t := 20) rfl (fun hc => ?_) (fun hc => ?_)
    rotate_left
    · have hlt : ¬ ¬ (Int16.ofInt 940).toInt32 < w0.1 184 2 + (Int8.ofInt 20).toInt32 := fun z => by
        have hc' : (!(decide ((Int16.ofInt 940).toInt32 < w0.1 184 2 + (Int8.ofInt 20).toInt32))) = false := hc
        rw [decide_eq_false z] at hc'
        cases hc'
      rw [Decidable.not_not, Int32.lt_iff_toInt_lt, e20, e940] at hlt
      refine wk_iconst d18 ?_
      exact wk_ireturn d19 m2 rfl ⟨_, _, rfl, fun z => absurd z (by omega), fun _ => ⟨rfl, rfl⟩⟩
    have hle : ¬ (Int16.ofInt 940).toInt32 < w0.1 184 2 + (Int8.ofInt 20).toInt32 := fun z => by
      have hc' : (!(decide ((Int16.ofInt 940).toInt32 < w0.1 184 2 + (Int8.ofInt 20).toInt32))) = true := hc
      rw [decide_eq_true z] at hc'
      cases hc'
    rw [Int32.lt_iff_toInt_lt, e20, e940] at hle
    refine wk_aload_n d20 rfl ?_
    refine wk_iload_n d21 rfl ?_
    obtain ⟨w1, hC1, hF1⟩ := hs_putM a w0 (l + 0) (by rw [hw0]; omega) (by omega) (by omega) hG0
    refine wk_call (kd := 0) (i := 10) d22 rfl (wk_cal (as := [.inr (.inr (some 184)), .inl a]) (t := []) m4 rfl m5 ⟨m6, m7⟩ rfl rfl m8 rfl) hC1 ?_
    refine wk_aload_n d25 rfl ?_
    refine wk_iload_n d26 rfl ?_
    obtain ⟨w2, hC2, hF2⟩ := hs_putM b w1 (l + 4) (by rw [hF1.1]; omega) (by omega) (by omega) hF1.2.2.2
    refine wk_call (kd := 0) (i := 10) d27 rfl (wk_cal (as := [.inr (.inr (some 184)), .inl b]) (t := []) m4 rfl m5 ⟨m6, m7⟩ rfl rfl m8 rfl) hC2 ?_
    refine wk_aload_n d30 rfl ?_
    refine wk_iload_n d31 rfl ?_
    obtain ⟨w3, hC3, hF3⟩ := hs_putM c w2 (l + 8) (by rw [hF2.1]; omega) (by omega) (by omega) hF2.2.2.2
    refine wk_call (kd := 0) (i := 10) d32 rfl (wk_cal (as := [.inr (.inr (some 184)), .inl c]) (t := []) m4 rfl m5 ⟨m6, m7⟩ rfl rfl m8 rfl) hC3 ?_
    refine wk_aload_n d35 rfl ?_
    refine wk_iload d36 rfl ?_
    obtain ⟨w4, hC4, hF4⟩ := hs_putM d w3 (l + 12) (by rw [hF3.1]; omega) (by omega) (by omega) hF3.2.2.2
    refine wk_call (kd := 0) (i := 10) d38 rfl (wk_cal (as := [.inr (.inr (some 184)), .inl d]) (t := []) m4 rfl m5 ⟨m6, m7⟩ rfl rfl m8 rfl) hC4 ?_
    refine wk_aload_n d41 rfl ?_
    refine wk_iload d42 rfl ?_
    obtain ⟨w5, hC5, hF5⟩ := hs_putM e w4 (l + 16) (by rw [hF4.1]; omega) (by omega) (by omega) hF4.2.2.2
    refine wk_call (kd := 0) (i := 10) d44 rfl (wk_cal (as := [.inr (.inr (some 184)), .inl e]) (t := []) m4 rfl m5 ⟨m6, m7⟩ rfl rfl m8 rfl) hC5 ?_
    refine wk_aload_n d47 rfl ?_
    refine wk_getI m3 d48 ?_
    exact wk_ireturn d51 m2 rfl ⟨_, w5, rfl, fun _ => ⟨by rw [hF5.1]; omega, by
      have := hs_F_trans hF1 (hs_F_trans hF2 (hs_F_trans hF3 (hs_F_trans hF4 hF5)))
      rw [show l + 20 = l + 16 + 4 from by omega]
      exact this⟩, fun z => absurd z (by omega)⟩
  obtain ⟨o, hC, r, w', rfl, h1, h2⟩ := h
  exact ⟨r, w', hC, h1, h2⟩

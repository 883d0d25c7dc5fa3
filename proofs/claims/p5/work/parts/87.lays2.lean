/-! ## by hand: lays of the reference, its loop (wip/p2/gentab8.py) -/
theorem hE2_u1 {w w' : cm_W} {i : Nat} {x : Int32} (h : hE2 w w') : hE2 w (cm_u1 w' 194 i x) := ⟨fun k j hk hk2 => by
  rw [hs_u1_ne (fun z => hk2 z.1)]
  exact h.1 k j hk hk2, fun k j => h.2 k j⟩
theorem hE2_of {w w' : cm_W} (h : hE w w') : hE2 w w' := ⟨fun k j hk _ => h.1 k j hk, h.2⟩
theorem hf_u1p {w : cm_W} {m u i : Nat} {x : Int32} : hf (cm_u1 w 194 i x) m u = hf w m u := hs_u1_ne (fun z => absurd z.1 (by decide))
/-- plates laid one by one -/
theorem hl_l2 (w0 : cm_W) (s d : Int32) (P : Nat) (hpre : hPre w0 P) (hbits : ∀ m, P ≤ m → m < 6 → hbt s (Int32.ofNat m) = false) (w1 : cm_W) (ht : hTab w0 s d P w1 0) (Q : cm_O → Prop) (hk : ∀ w', hE2 w0 w' → (∀ m u, hf w' m u = hf w1 m u) → Q (none, w')) : ∀ (n m u : Nat) (o5 : Option cm_V) (w : cm_W), n + m = 6 → u < 1296 → (m ≤ P → (hf w1 m u).toInt < 1000000) → hE2 w0 w → (∀ m u, hf w m u = hf w1 m u) → (o5 = none ∨ ∃ x, o5 = some (.inl x)) → cm_X (cm_C 4) 271 11 [some (.inr (.inr (some 184))), some (.inl s), some (.inl d), some (.inl (Int32.ofNat u)), some (.inl (Int32.ofNat m)), o5] [] w Q := by
  obtain ⟨d0, d1, d2, d3, d6, d7, d8, d9, d11, d13, d15, d18, d19, d22, d24, d25, d26, d27, d29, d32, d35, d38, d39, d41, d42, d44, d46, d47, d50, d53, d54, d55, d57, d60, d63, d65, d68, d69, d72, d75, d77, d78, d79, d80, d81, d82, d84, d87, d88, d89, d90, d91, d94, d97, d99, d100, d101, d102, d103, d106, d109, d112, d113, d116, d118, d120, d121, d122, d123, d125, d128, d129, d132, d135⟩ := hl_d
  obtain ⟨m1, m2, gp, gf, ap, af, t1, t2, t3, b1, b2, b3, i1, i2, i3, u1, u2, u3, p1, p2, p3, rt⟩ := hl_m
  obtain ⟨hP, hP6, h10, h14, h4, hst⟩ := id hpre
  have hrow : ∀ m, m ≤ P → ∀ u, u < 1296 → 0 ≤ (hf w1 m u).toInt ∧ (hf w1 m u).toInt ≤ 1000000 := fun m hm u hu0 => by
    rcases Nat.lt_or_eq_of_le hm with h | h
    · exact ⟨(ht.2 m (Nat.zero_le _) h u hu0).1, (ht.2 m (Nat.zero_le _) h u hu0).2.1⟩
    · rw [h, ht.1 u hu0]
      decide
  intro n
  induction n with
  | zero =>
    intro m u o5 w hm hu0 hlt hE hfw ho
    refine wk_iload d11 rfl ?_
    refine wk_bipush d13 ?_
    refine wk_icmp d15 (t := 135) rfl (fun _ => ?_) (fun hc => ?_)
    · exact wk_return d135 m2 (hk w hE hfw)
    · have := (hk_ge (by omega) hl_c6 hc).2 rfl
      omega
  | succ n ih =>
    intro m u o5 w hm hu0 hlt hE hfw ho
    have hno : ia_nl (cm_el [some (.inr (.inr (some 184))), some (.inl s), some (.inl d), some (.inl (Int32.ofNat u)), some (.inl (Int32.ofNat m)), o5]) 5 = true ∧ ia_nl (cm_el [some (.inr (.inr (some 184))), some (.inl s), some (.inl d), some (.inl (Int32.ofNat u)), some (.inl (Int32.ofNat m)), o5]) 4 = true := by
      rcases ho with rfl | ⟨x, rfl⟩
      · exact ⟨rfl, rfl⟩
      · exact ⟨rfl, rfl⟩
    have hmi : (Int32.ofNat m).toInt = (m : Int) := hk_to m (by omega)
    refine wk_iload d11 rfl ?_
    refine wk_bipush d13 ?_
    refine wk_icmp d15 (t := 135) rfl (fun hc => ?_) (fun _ => ?_)
    · have := (hk_ge (by omega) hl_c6 hc).1 rfl
      omega
    refine wk_aload_n d18 rfl ?_
    refine wk_getR gp d19 ?_
    refine wk_iload d22 rfl ?_
    refine wk_iconst d24 ?_
    refine wk_iastore ap (by rw [hmi]; omega) (by rw [hmi]; omega) d25 ?_
    have hEA : hE2 w0 (cm_u1 w 194 (Int32.ofNat m).toInt.toNat (Int32.ofInt (-1))) := hE2_u1 hE
    have hfA : ∀ m' u', hf (cm_u1 w 194 (Int32.ofNat m).toInt.toNat (Int32.ofInt (-1))) m' u' = hf w1 m' u' := fun m' u' => by rw [hf_u1p]; exact hfw m' u'
    generalize cm_u1 w 194 (Int32.ofNat m).toInt.toNat (Int32.ofInt (-1)) = wA at hEA hfA ⊢
    refine wk_iload_n d26 rfl ?_
    refine wk_iload d27 rfl ?_
    refine wk_call (kd := 1) (i := 207) d29 rfl (wk_cal (as := [.inl s, .inl (Int32.ofNat m)]) (t := []) b1 rfl b2 b3 rfl rfl rfl rfl) (cm_C_mono (by decide) (hbt_ok s (Int32.ofNat m) wA)) ?_
    refine wk_if d32 (t := 38) rfl (fun hc => ?_) (fun hc => ?_)
    · have hb : hbt s (Int32.ofNat m) = true := by
        cases hb : hbt s (Int32.ofNat m) with
        | true => rfl
        | false => rw [hb] at hc; exact absurd hc (by decide)
      have hmP : m < P := by
        rcases Nat.lt_or_ge m P with h | h
        · exact h
        · rw [hbits m h (by omega)] at hb; cases hb
      obtain ⟨r1, r2, r3, r4⟩ := ht.2 m (Nat.zero_le _) hmP u hu0
      have hlt' := hlt (by omega)
      have h186 : ∀ k, wA.1 186 k = w0.1 186 k := fun k => hEA.1 186 k (by decide) (by decide)
      rcases r4 hb with e | ⟨pE, vE, e1, e2, e3, e4, e5⟩
      · omega
      refine wk_iconst d38 ?_
      refine wk_istore d39 (by rw [m1]; rfl) hno.1 ?_
      refine hl_l1 w0 s d P m u pE vE hpre hmP hu0 wA h186 e1 e2 e3 e4 (by rw [hfA, hfA]; exact e5) (fun v hv => by rw [hfA]; exact hrow (m + 1) (by omega) v hv) Q (fun p v c1 c2 c3 c4 => ?_) pE 0 rfl
      rw [hfA, hfA] at c3
      have q1 := (hp_in (p := p) (by omega)).1
      refine wk_aload_n d112 rfl ?_
      refine wk_getR gp d113 ?_
      refine wk_iload d116 rfl ?_
      refine wk_iload d118 rfl ?_
      refine wk_iastore ap (by rw [hmi]; omega) (by rw [hmi]; omega) d120 ?_
      have hEB : hE2 w0 (cm_u1 wA 194 (Int32.ofNat m).toInt.toNat (Int32.ofNat p)) := hE2_u1 hEA
      have hfB : ∀ m' u', hf (cm_u1 wA 194 (Int32.ofNat m).toInt.toNat (Int32.ofNat p)) m' u' = hf w1 m' u' := fun m' u' => by rw [hf_u1p]; exact hfA m' u'
      generalize cm_u1 wA 194 (Int32.ofNat m).toInt.toNat (Int32.ofNat p) = wB at hEB hfB ⊢
      have hcu := hu_ok (Int32.ofNat u) (Int32.ofNat p) wB
      rw [show (fun j => wB.1 186 (100 + j)) = (fun j => w0.1 186 (100 + j)) from funext (fun j => hEB.1 186 (100 + j) (by decide) (by decide)), c4] at hcu
      refine wk_aload_n d121 rfl ?_
      refine wk_iload_n d122 rfl ?_
      refine wk_iload d123 rfl ?_
      refine wk_call (kd := 0) (i := 335) d125 rfl (wk_cal (as := [.inr (.inr (some 184)), .inl (Int32.ofNat u), .inl (Int32.ofNat p)]) (t := []) u1 rfl u2 u3 rfl rfl ht_r3 rfl) (cm_C_mono (by decide) hcu) ?_
      refine wk_istore_n d128 (by rw [m1]; rfl) rfl ?_
      refine wk_iinc d129 (by rw [m1]; rfl) rfl rfl ?_
      refine wk_goto d132 (t := 11) rfl ?_
      rw [hk_inc m (by omega)]
      exact ih (m + 1) v _ wB (by omega) c2 (fun _ => by omega) hEB hfB (.inr ⟨_, rfl⟩)
    · have hb : hbt s (Int32.ofNat m) = false := by
        cases hb : hbt s (Int32.ofNat m) with
        | false => rfl
        | true => rw [hb] at hc; exact absurd hc (by decide)
      refine wk_goto d35 (t := 129) rfl ?_
      refine wk_iinc d129 (by rw [m1]; rfl) hno.2 rfl ?_
      refine wk_goto d132 (t := 11) rfl ?_
      rw [hk_inc m (by omega)]
      refine ih (m + 1) u o5 wA (by omega) hu0 (fun h => ?_) hEA hfA ho
      have := (ht.2 m (Nat.zero_le _) (by omega) u hu0).2.2.1 hb
      rw [← this]
      exact hlt (by omega)
/-- lays ends, and leaves all but the table and the plates -/
theorem hl_ok (w0 : cm_W) (s d : Int32) (P : Nat) (hpre : hPre w0 P) (hbits : ∀ m, P ≤ m → m < 6 → hbt s (Int32.ofNat m) = false) (hfar : ∀ w1, hE w0 w1 → hTab w0 s d P w1 0 → hTabM w0 s d P w1 0 → (hf w1 0 0).toInt < 1000000) : ∃ w', cm_C 5 271 [.inr (.inr (some 184)), .inl s, .inl d] w0 (none, w') ∧ hE2 w0 w' := by
  obtain ⟨d0, d1, d2, d3, d6, d7, d8, d9, d11, d13, d15, d18, d19, d22, d24, d25, d26, d27, d29, d32, d35, d38, d39, d41, d42, d44, d46, d47, d50, d53, d54, d55, d57, d60, d63, d65, d68, d69, d72, d75, d77, d78, d79, d80, d81, d82, d84, d87, d88, d89, d90, d91, d94, d97, d99, d100, d101, d102, d103, d106, d109, d112, d113, d116, d118, d120, d121, d122, d123, d125, d128, d129, d132, d135⟩ := hl_d
  obtain ⟨m1, m2, gp, gf, ap, af, t1, t2, t3, b1, b2, b3, i1, i2, i3, u1, u2, u3, p1, p2, p3, rt⟩ := hl_m
  have h : ∃ o, cm_C (4 + 1) 271 [.inr (.inr (some 184)), .inl s, .inl d] w0 o ∧ (fun o : cm_O => ∃ w', o = (none, w') ∧ hE2 w0 w') o := by
    refine wk_entry (by rw [m1]; exact Nat.le_of_ble_eq_true rfl) ?_
    rw [show cm_ent 271 [.inr (.inr (some 184)), .inl s, .inl d] = [some (.inr (.inr (some 184))), some (.inl s), some (.inl d), none, none, none] from by unfold cm_ent; rw [m1]; rfl]
    obtain ⟨w1, hC, a1, a2, a3⟩ := ht_ok w0 s d P hpre
    refine wk_aload_n d0 rfl ?_
    refine wk_iload_n d1 rfl ?_
    refine wk_iload_n d2 rfl ?_
    refine wk_call (kd := 0) (i := 338) d3 rfl (wk_cal (as := [.inr (.inr (some 184)), .inl s, .inl d]) (t := []) t1 rfl t2 t3 rfl rfl rt rfl) hC ?_
    refine wk_iconst d6 ?_
    refine wk_istore_n d7 (by rw [m1]; rfl) rfl ?_
    refine wk_iconst d8 ?_
    refine wk_istore d9 (by rw [m1]; rfl) rfl ?_
    exact hl_l2 w0 s d P hpre hbits w1 a2 _ (fun w' b1 _ => ⟨w', rfl, b1⟩) 6 0 0 none w1 rfl (by omega) (fun _ => hfar w1 a1 a2 a3) (hE2_of a1) (fun _ _ => rfl) (.inl rfl)
  obtain ⟨o, hC, w', rfl, a1⟩ := h
  exact ⟨w', hC, a1⟩

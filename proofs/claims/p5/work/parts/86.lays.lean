/-! ## by hand: lays of the reference (wip/p2/gentab7.py) -/
set_option maxRecDepth 100000 in
theorem hl_d : decode (ia_code 271) 0 = .ok (.aload_n 0, 1) ∧ decode (ia_code 271) 1 = .ok (.iload_n 1, 1) ∧ decode (ia_code 271) 2 = .ok (.iload_n 2, 1) ∧ decode (ia_code 271) 3 = .ok (.invokevirtual 338, 3) ∧ decode (ia_code 271) 6 = .ok (.iconst 0, 1) ∧ decode (ia_code 271) 7 = .ok (.istore_n 3, 1) ∧ decode (ia_code 271) 8 = .ok (.iconst 0, 1) ∧ decode (ia_code 271) 9 = .ok (.istore 4, 2) ∧ decode (ia_code 271) 11 = .ok (.iload 4, 2) ∧ decode (ia_code 271) 13 = .ok (.bipush 6, 2) ∧ decode (ia_code 271) 15 = .ok (.if_icmp .ge 120, 3) ∧ decode (ia_code 271) 18 = .ok (.aload_n 0, 1) ∧ decode (ia_code 271) 19 = .ok (.getfield 59, 3) ∧ decode (ia_code 271) 22 = .ok (.iload 4, 2) ∧ decode (ia_code 271) 24 = .ok (.iconst (-1), 1) ∧ decode (ia_code 271) 25 = .ok (.iastore, 1) ∧ decode (ia_code 271) 26 = .ok (.iload_n 1, 1) ∧ decode (ia_code 271) 27 = .ok (.iload 4, 2) ∧ decode (ia_code 271) 29 = .ok (.invokestatic 207, 3) ∧ decode (ia_code 271) 32 = .ok (.ifCond .ne 6, 3) ∧ decode (ia_code 271) 35 = .ok (.goto 94, 3) ∧ decode (ia_code 271) 38 = .ok (.iconst 0, 1) ∧ decode (ia_code 271) 39 = .ok (.istore 5, 2) ∧ decode (ia_code 271) 41 = .ok (.aload_n 0, 1) ∧ decode (ia_code 271) 42 = .ok (.iload 4, 2) ∧ decode (ia_code 271) 44 = .ok (.iload 5, 2) ∧ decode (ia_code 271) 46 = .ok (.iload_n 2, 1) ∧ decode (ia_code 271) 47 = .ok (.invokevirtual 332, 3) ∧ decode (ia_code 271) 50 = .ok (.ifCond .eq 56, 3) ∧ decode (ia_code 271) 53 = .ok (.aload_n 0, 1) ∧ decode (ia_code 271) 54 = .ok (.iload_n 3, 1) ∧ decode (ia_code 271) 55 = .ok (.iload 5, 2) ∧ decode (ia_code 271) 57 = .ok (.invokevirtual 335, 3) ∧ decode (ia_code 271) 60 = .ok (.ifCond .lt 46, 3) ∧ decode (ia_code 271) 63 = .ok (.iload 5, 2) ∧ decode (ia_code 271) 65 = .ok (.invokestatic 322, 3) ∧ decode (ia_code 271) 68 = .ok (.aload_n 0, 1) ∧ decode (ia_code 271) 69 = .ok (.getfield 56, 3) ∧ decode (ia_code 271) 72 = .ok (.sipush 1296, 3) ∧ decode (ia_code 271) 75 = .ok (.iload 4, 2) ∧ decode (ia_code 271) 77 = .ok (.iconst 1, 1) ∧ decode (ia_code 271) 78 = .ok (.iadd, 1) ∧ decode (ia_code 271) 79 = .ok (.imul, 1) ∧ decode (ia_code 271) 80 = .ok (.aload_n 0, 1) ∧ decode (ia_code 271) 81 = .ok (.iload_n 3, 1) ∧ decode (ia_code 271) 82 = .ok (.iload 5, 2) ∧ decode (ia_code 271) 84 = .ok (.invokevirtual 335, 3) ∧ decode (ia_code 271) 87 = .ok (.iadd, 1) ∧ decode (ia_code 271) 88 = .ok (.iaload, 1) ∧ decode (ia_code 271) 89 = .ok (.iadd, 1) ∧ decode (ia_code 271) 90 = .ok (.aload_n 0, 1) ∧ decode (ia_code 271) 91 = .ok (.getfield 56, 3) ∧ decode (ia_code 271) 94 = .ok (.sipush 1296, 3) ∧ decode (ia_code 271) 97 = .ok (.iload 4, 2) ∧ decode (ia_code 271) 99 = .ok (.imul, 1) ∧ decode (ia_code 271) 100 = .ok (.iload_n 3, 1) ∧ decode (ia_code 271) 101 = .ok (.iadd, 1) ∧ decode (ia_code 271) 102 = .ok (.iaload, 1) ∧ decode (ia_code 271) 103 = .ok (.if_icmp .eq 9, 3) ∧ decode (ia_code 271) 106 = .ok (.iinc 5 1, 3) ∧ decode (ia_code 271) 109 = .ok (.goto (-68), 3) ∧ decode (ia_code 271) 112 = .ok (.aload_n 0, 1) ∧ decode (ia_code 271) 113 = .ok (.getfield 59, 3) ∧ decode (ia_code 271) 116 = .ok (.iload 4, 2) ∧ decode (ia_code 271) 118 = .ok (.iload 5, 2) ∧ decode (ia_code 271) 120 = .ok (.iastore, 1) ∧ decode (ia_code 271) 121 = .ok (.aload_n 0, 1) ∧ decode (ia_code 271) 122 = .ok (.iload_n 3, 1) ∧ decode (ia_code 271) 123 = .ok (.iload 5, 2) ∧ decode (ia_code 271) 125 = .ok (.invokevirtual 335, 3) ∧ decode (ia_code 271) 128 = .ok (.istore_n 3, 1) ∧ decode (ia_code 271) 129 = .ok (.iinc 4 1, 3) ∧ decode (ia_code 271) 132 = .ok (.goto (-121), 3) ∧ decode (ia_code 271) 135 = .ok (.return_, 1) := by
  refine ⟨?_, ?_, ?_, ?_, ?_, ?_, ?_, ?_, ?_, ?_, ?_, ?_, ?_, ?_, ?_, ?_, ?_, ?_, ?_, ?_, ?_, ?_, ?_, ?_, ?_, ?_, ?_, ?_, ?_, ?_, ?_, ?_, ?_, ?_, ?_, ?_, ?_, ?_, ?_, ?_, ?_, ?_, ?_, ?_, ?_, ?_, ?_, ?_, ?_, ?_, ?_, ?_, ?_, ?_, ?_, ?_, ?_, ?_, ?_, ?_, ?_, ?_, ?_, ?_, ?_, ?_, ?_, ?_, ?_, ?_, ?_, ?_, ?_, ?_⟩ <;> decide +kernel
set_option maxRecDepth 100000 in
theorem hl_m : ia_maxL 271 = 6 ∧ ia_ret 271 = none ∧ wk_gf 271 59 184 25 (194 + 3) = true ∧ wk_gf 271 56 184 24 (193 + 3) = true ∧ wk_ar 194 50 6 = true ∧ wk_ar 193 50 9072 = true ∧ ia_pl (ia_cls 271) 338 = some (1, 284, 0, 0, 1884) ∧ ia_na 284 = 3 ∧ (ia_mc 284 = 0 ∧ ia_ms 284 = 0) ∧ ia_pl (ia_cls 271) 207 = some (1, 245, 1, 0, 1672) ∧ ia_na 245 = 2 ∧ (ia_mc 245 = 0 ∧ ia_ms 245 = 0) ∧ ia_pl (ia_cls 271) 332 = some (1, 260, 0, 0, 1888) ∧ ia_na 260 = 4 ∧ (ia_mc 260 = 0 ∧ ia_ms 260 = 0) ∧ ia_pl (ia_cls 271) 335 = some (1, 288, 0, 0, 1903) ∧ ia_na 288 = 3 ∧ (ia_mc 288 = 0 ∧ ia_ms 288 = 0) ∧ ia_pl (ia_cls 271) 322 = some (1, 279, 1, 0, 1896) ∧ ia_na 279 = 1 ∧ (ia_mc 279 = 0 ∧ ia_ms 279 = 0) ∧ (Nat.beq 0 1 || cm_rcv 284 [.inr (.inr (some 184)), .inl 0, .inl 0]) = true := ⟨by decide +kernel, by decide +kernel, by decide +kernel, by decide +kernel, by decide +kernel, by decide +kernel, by decide +kernel, by decide +kernel, ⟨by decide +kernel, by decide +kernel⟩, by decide +kernel, by decide +kernel, ⟨by decide +kernel, by decide +kernel⟩, by decide +kernel, by decide +kernel, ⟨by decide +kernel, by decide +kernel⟩, by decide +kernel, by decide +kernel, ⟨by decide +kernel, by decide +kernel⟩, by decide +kernel, by decide +kernel, ⟨by decide +kernel, by decide +kernel⟩, by decide +kernel⟩
/-- the table is the only one -/
theorem hUniq {w0 w0' w1 w2 : cm_W} {s d : Int32} {P : Nat} (h0 : ∀ k, w0'.1 186 k = w0.1 186 k) (a1 : hTab w0 s d P w1 0) (a2 : hTabM w0 s d P w1 0) (c1 : hTab w0' s d P w2 0) (c2 : hTabM w0' s d P w2 0) : ∀ (n m : Nat), n + m = P → ∀ u, u < 1296 → (hf w1 m u).toInt = (hf w2 m u).toInt := by
  have hst : (fun j => w0'.1 186 (100 + j)) = (fun j => w0.1 186 (100 + j)) := funext (fun j => h0 (100 + j))
  intro n
  induction n with
  | zero =>
    intro m hm u hu0
    have e : m = P := by omega
    rw [e, a1.1 u hu0, c1.1 u hu0]
  | succ n ih =>
    intro m hm u hu0
    obtain ⟨x1, x2, x3, x4⟩ := a1.2 m (Nat.zero_le _) (by omega) u hu0
    obtain ⟨z1, z2, z3, z4⟩ := c1.2 m (Nat.zero_le _) (by omega) u hu0
    have ih' := ih (m + 1) (by omega)
    cases hb : hbt s (Int32.ofNat m) with
    | false => rw [x3 hb, z3 hb]; exact ih' u hu0
    | true =>
      apply Int.le_antisymm
      · rcases z4 hb with e | ⟨p, v, e1, e2, e3, e4, e5⟩
        · rw [e]; exact x2
        · rw [e5, ← ih' v e2]
          rw [hfr_E h0] at e3
          rw [hst] at e4
          exact a2 m (Nat.zero_le _) (by omega) hb u hu0 p v e1 e2 e3 e4
      · rcases x4 hb with e | ⟨p, v, e1, e2, e3, e4, e5⟩
        · rw [e]; exact z2
        · rw [e5, ih' v e2]
          refine c2 m (Nat.zero_le _) (by omega) hb u hu0 p v e1 e2 ?_ ?_
          · rw [hfr_E h0]; exact e3
          · rw [hst]; exact e4
/-- nothing but the table and the plates changes -/
def hE2 (w w' : cm_W) : Prop := (∀ k j, k ≠ 193 → k ≠ 194 → w'.1 k j = w.1 k j) ∧ (∀ k j, w'.2 k j = w.2 k j)
theorem hl_c6 : ((Int8.ofInt 6).toInt32).toInt = ((6 : Nat) : Int) := by decide
/-- the plate that is sought is found -/
theorem hl_l1 (w0 : cm_W) (s d : Int32) (P m u pE vE : Nat) (hpre : hPre w0 P) (hm : m < P) (hu0 : u < 1296) (w1 : cm_W) (h186 : ∀ k, w1.1 186 k = w0.1 186 k) (hpE : pE < 256) (hvE : vE < 1296) (hE1 : hfr w0 (Int32.ofNat m) (Int32.ofNat pE) d = true) (hE2' : hu (fun j => w0.1 186 (100 + j)) (Int32.ofNat pE) 4 0 (Int32.ofNat u) (Int32.ofInt 1) (Int32.ofNat u) = Int32.ofNat vE) (hE3 : (hf w1 m u).toInt = (hp (Int32.ofNat pE)).toInt + (hf w1 (m + 1) vE).toInt) (hnx : ∀ v, v < 1296 → 0 ≤ (hf w1 (m + 1) v).toInt ∧ (hf w1 (m + 1) v).toInt ≤ 1000000) (Q : cm_O → Prop) (hk : ∀ p v, p < 256 → v < 1296 → (hf w1 m u).toInt = (hp (Int32.ofNat p)).toInt + (hf w1 (m + 1) v).toInt → hu (fun j => w0.1 186 (100 + j)) (Int32.ofNat p) 4 0 (Int32.ofNat u) (Int32.ofInt 1) (Int32.ofNat u) = Int32.ofNat v → cm_X (cm_C 4) 271 112 [some (.inr (.inr (some 184))), some (.inl s), some (.inl d), some (.inl (Int32.ofNat u)), some (.inl (Int32.ofNat m)), some (.inl (Int32.ofNat p))] [] w1 Q) : ∀ (n j : Nat), n + j = pE → cm_X (cm_C 4) 271 41 [some (.inr (.inr (some 184))), some (.inl s), some (.inl d), some (.inl (Int32.ofNat u)), some (.inl (Int32.ofNat m)), some (.inl (Int32.ofNat j))] [] w1 Q := by
  obtain ⟨d0, d1, d2, d3, d6, d7, d8, d9, d11, d13, d15, d18, d19, d22, d24, d25, d26, d27, d29, d32, d35, d38, d39, d41, d42, d44, d46, d47, d50, d53, d54, d55, d57, d60, d63, d65, d68, d69, d72, d75, d77, d78, d79, d80, d81, d82, d84, d87, d88, d89, d90, d91, d94, d97, d99, d100, d101, d102, d103, d106, d109, d112, d113, d116, d118, d120, d121, d122, d123, d125, d128, d129, d132, d135⟩ := hl_d
  obtain ⟨m1, m2, gp, gf, ap, af, t1, t2, t3, b1, b2, b3, i1, i2, i3, u1, u2, u3, p1, p2, p3, rt⟩ := hl_m
  obtain ⟨hP, hP6, h10, h14, h4, hst⟩ := id hpre
  have hst1 : (fun j => w1.1 186 (100 + j)) = (fun j => w0.1 186 (100 + j)) := funext (fun j => h186 (100 + j))
  have body : ∀ j, j ≤ pE → (j ≠ pE → cm_X (cm_C 4) 271 41 [some (.inr (.inr (some 184))), some (.inl s), some (.inl d), some (.inl (Int32.ofNat u)), some (.inl (Int32.ofNat m)), some (.inl (Int32.ofNat (j + 1)))] [] w1 Q) → cm_X (cm_C 4) 271 41 [some (.inr (.inr (some 184))), some (.inl s), some (.inl d), some (.inl (Int32.ofNat u)), some (.inl (Int32.ofNat m)), some (.inl (Int32.ofNat j))] [] w1 Q := by
    intro j hj hnext
    have hcall := hfr_ok (Int32.ofNat m) (Int32.ofNat j) d w1 (by rw [h186]; exact h10) (by rw [h186]; exact h14) (by rw [h186]; exact h4) (by rw [hk_to m (by omega)]; omega) (by rw [hk_to m (by omega)]; omega)
    rw [hfr_E h186] at hcall
    have hcu := hu_ok (Int32.ofNat u) (Int32.ofNat j) w1
    rw [hst1] at hcu
    have go : j ≠ pE → cm_X (cm_C 4) 271 106 [some (.inr (.inr (some 184))), some (.inl s), some (.inl d), some (.inl (Int32.ofNat u)), some (.inl (Int32.ofNat m)), some (.inl (Int32.ofNat j))] [] w1 Q := fun hne => by
      refine wk_iinc d106 (by rw [m1]; rfl) rfl rfl ?_
      refine wk_goto d109 (t := 41) rfl ?_
      rw [hk_inc j (by omega)]
      exact hnext hne
    refine wk_aload_n d41 rfl ?_
    refine wk_iload d42 rfl ?_
    refine wk_iload d44 rfl ?_
    refine wk_iload_n d46 rfl ?_
    refine wk_call (kd := 0) (i := 332) d47 rfl (wk_cal (as := [.inr (.inr (some 184)), .inl (Int32.ofNat m), .inl (Int32.ofNat j), .inl d]) (t := []) i1 rfl i2 i3 rfl rfl ht_r4 rfl) (cm_C_mono (by decide) hcall) ?_
    refine wk_if d50 (t := 106) rfl (fun hc => ?_) (fun _ => ?_)
    · have hb := (hbI_0 hc).1 rfl
      refine go (fun e => ?_)
      rw [e, hE1] at hb
      cases hb
    refine wk_aload_n d53 rfl ?_
    refine wk_iload_n d54 rfl ?_
    refine wk_iload d55 rfl ?_
    refine wk_call (kd := 0) (i := 335) d57 rfl (wk_cal (as := [.inr (.inr (some 184)), .inl (Int32.ofNat u), .inl (Int32.ofNat j)]) (t := []) u1 rfl u2 u3 rfl rfl ht_r3 rfl) (cm_C_mono (by decide) hcu) ?_
    rcases hu_rng (p := Int32.ofNat j) (u := u) hst hu0 with hx | ⟨v, hv, hx⟩
    · rw [hx]
      refine wk_if d60 (t := 106) rfl (fun _ => go (fun e => ?_)) (fun hc => ?_)
      · rw [e, hE2'] at hx
        exact absurd hx.symm (hk_n1 (by omega))
      · rw [ht_neg] at hc
        cases hc
    rw [hx] at hcu ⊢
    refine wk_if d60 (t := 106) rfl (fun hc => ?_) (fun _ => ?_)
    · rw [ht_nn v (by omega)] at hc
      cases hc
    have hix := hk_ix (m := m) (u := u) (by omega) hu0
    have hix2 := hk_ix (m := m + 1) (u := v) (by omega) hv
    refine wk_iload d63 rfl ?_
    refine wk_call (kd := 1) (i := 322) d65 rfl (wk_cal (as := [.inl (Int32.ofNat j)]) (t := []) p1 rfl p2 p3 rfl rfl rfl rfl) (cm_C_mono (by decide) (hp_ok (Int32.ofNat j) w1)) ?_
    refine wk_aload_n d68 rfl ?_
    refine wk_getR gf d69 ?_
    refine wk_sipush d72 ?_
    refine wk_iload d75 rfl ?_
    refine wk_iconst d77 ?_
    refine wk_iadd d78 ?_
    refine wk_imul d79 ?_
    rw [hk_inc m (by omega)]
    refine wk_aload_n d80 rfl ?_
    refine wk_iload_n d81 rfl ?_
    refine wk_iload d82 rfl ?_
    refine wk_call (kd := 0) (i := 335) d84 rfl (wk_cal (as := [.inr (.inr (some 184)), .inl (Int32.ofNat u), .inl (Int32.ofNat j)]) (t := [.inl ((Int16.ofInt 1296).toInt32 * Int32.ofNat (m + 1)), .inr (.inr (some 193)), .inl (hp (Int32.ofNat j))]) u1 rfl u2 u3 rfl rfl ht_r3 rfl) (cm_C_mono (by decide) hcu) ?_
    refine wk_iadd d87 ?_
    refine wk_iaload af (by rw [hix2]; omega) (by rw [hix2]; omega) d88 ?_
    rw [hix2, show ((1296 * (m + 1) + v : Nat) : Int).toNat = 1296 * (m + 1) + v from by omega]
    refine wk_iadd d89 ?_
    refine wk_aload_n d90 rfl ?_
    refine wk_getR gf d91 ?_
    refine wk_sipush d94 ?_
    refine wk_iload d97 rfl ?_
    refine wk_imul d99 ?_
    refine wk_iload_n d100 rfl ?_
    refine wk_iadd d101 ?_
    refine wk_iaload af (by rw [hix]; omega) (by rw [hix]; omega) d102 ?_
    rw [hix, show ((1296 * m + u : Nat) : Int).toNat = 1296 * m + u from by omega]
    obtain ⟨q1, q2⟩ := hp_in (p := j) (by omega)
    obtain ⟨n1, n2⟩ := hnx v hv
    have hsum : (hp (Int32.ofNat j) + w1.1 193 (1296 * (m + 1) + v)).toInt = (hp (Int32.ofNat j)).toInt + (hf w1 (m + 1) v).toInt := by
      rw [Int32.toInt_add]
      show ((hp (Int32.ofNat j)).toInt + (hf w1 (m + 1) v).toInt).bmod _ = _
      exact Int.bmod_eq_of_le (by omega) (by omega)
    refine wk_icmp d103 (t := 112) rfl (fun hc => ?_) (fun hc => ?_)
    · have he : hp (Int32.ofNat j) + w1.1 193 (1296 * (m + 1) + v) = w1.1 193 (1296 * m + u) := of_decide_eq_true hc
      refine hk j v (by omega) hv ?_ hx
      rw [← hsum, he]
      rfl
    · have he : ¬ hp (Int32.ofNat j) + w1.1 193 (1296 * (m + 1) + v) = w1.1 193 (1296 * m + u) := of_decide_eq_false hc
      refine go (fun e => he ?_)
      apply Int32.toInt_inj.mp
      rw [hsum]
      show _ = (hf w1 m u).toInt
      have ev : v = vE := by
        rw [e, hE2'] at hx
        exact (hk_inj (by omega) (by omega) hx).symm
      rw [hE3, e, ev]
  intro n
  induction n with
  | zero => intro j hj; exact body j (by omega) (fun h => absurd hj (by omega))
  | succ n ih => intro j hj; exact body j (by omega) (fun _ => ih (j + 1) (by omega))

/-! ## the plain machine has one outcome -/
theorem cm_xdc {y pc len : Nat} {ins : Instr} {lv : cm_L} {st : List cm_V} {w : cm_W} {q : cm_A} {z : Nat × List cm_V × List cm_V} (h1 : cm_do y pc ins len lv st w = some q) (h2 : cm_call y ins len st = some z) : False := by
  unfold cm_call at h2
  split at h2
  · rename_i i
    exact absurd (show none = some q from h1) (by intro h; cases h)
  · rename_i i
    have h2' := (ia_if_eq h2).2
    have h1' := (ia_if_eq (show ia_if (Nat.beq len 3) (cm_inv y i pc lv st w) = some q from h1)).2
    unfold cm_cal at h2'
    unfold cm_inv at h1'
    split at h2'
    · rename_i hpl
      rw [hpl] at h1'
      cases h1'
    · cases h2'
  · cases h2
theorem cm_xdr {y pc len : Nat} {ins : Instr} {lv : cm_L} {st : List cm_V} {w : cm_W} {q : cm_A} {r : Option cm_V} (h1 : cm_do y pc ins len lv st w = some q) (h2 : cm_ret y ins len st = some r) : False := by
  unfold cm_ret at h2
  split at h2
  · exact absurd (show none = some q from h1) (by intro h; cases h)
  · exact absurd (show none = some q from h1) (by intro h; cases h)
  · exact absurd (show none = some q from h1) (by intro h; cases h)
  · cases h2
theorem cm_xcr {y len : Nat} {ins : Instr} {st : List cm_V} {z : Nat × List cm_V × List cm_V} {r : Option cm_V} (h1 : cm_call y ins len st = some z) (h2 : cm_ret y ins len st = some r) : False := by
  unfold cm_ret at h2
  split at h2
  · exact absurd (show none = some z from h1) (by intro h; cases h)
  · exact absurd (show none = some z from h1) (by intro h; cases h)
  · exact absurd (show none = some z from h1) (by intro h; cases h)
  · cases h2
theorem cm_R_det {C : Nat → List cm_V → cm_W → cm_O → Prop} (hC : ∀ y as w o o', C y as w o → C y as w o' → o = o') {y : Nat} : ∀ (F F' pc : Nat) (lv : cm_L) (st : List cm_V) (w : cm_W) (o o' : cm_O), cm_R C y F pc lv st w o → cm_R C y F' pc lv st w o' → o = o' := by
  intro F
  induction F with
  | zero => exact fun _ _ _ _ _ _ _ h _ => absurd h id
  | succ F ih =>
    intro F' pc lv st w o o' h h'
    cases F' with
    | zero => exact absurd h' id
    | succ F' =>
      obtain ⟨ins, len, hd, h⟩ := h
      obtain ⟨ins', len', hd', h'⟩ := h'
      rw [hd] at hd'
      cases hd'
      rcases h with ⟨q, g1, g2⟩ | ⟨y2, as, t, r, w1, g1, g2, g3⟩ | ⟨r, g1, g2⟩
      · rcases h' with ⟨q', k1, k2⟩ | ⟨y2', as', t', r', w1', k1, k2, k3⟩ | ⟨r', k1, k2⟩
        · rw [g1] at k1
          cases k1
          exact ih F' _ _ _ _ _ _ g2 k2
        · exact absurd (cm_xdc g1 k1) id
        · exact absurd (cm_xdr g1 k1) id
      · rcases h' with ⟨q', k1, k2⟩ | ⟨y2', as', t', r', w1', k1, k2, k3⟩ | ⟨r', k1, k2⟩
        · exact absurd (cm_xdc k1 g1) id
        · rw [g1] at k1
          cases k1
          have e := hC _ _ _ _ _ g2 k2
          cases e
          exact ih F' _ _ _ _ _ _ g3 k3
        · exact absurd (cm_xcr g1 k1) id
      · rcases h' with ⟨q', k1, k2⟩ | ⟨y2', as', t', r', w1', k1, k2, k3⟩ | ⟨r', k1, k2⟩
        · exact absurd (cm_xdr k1 g1) id
        · exact absurd (cm_xcr k1 g1) id
        · rw [g1] at k1
          cases k1
          rw [g2, k2]
theorem cm_R_inv {C : Nat → List cm_V → cm_W → cm_O → Prop} {y F pc len : Nat} {ins : Instr} {lv : cm_L} {st : List cm_V} {w : cm_W} {o : cm_O} {q : cm_A} (hd : decode (ia_code y) pc = .ok (ins, len)) (hq : cm_do y pc ins len lv st w = some q) (h : cm_R C y F pc lv st w o) : ∃ F', cm_R C y F' q.1 q.2.1 q.2.2.1 q.2.2.2 o := by
  cases F with
  | zero => exact absurd h id
  | succ F =>
    obtain ⟨ins', len', hd', h⟩ := h
    rw [hd] at hd'
    cases hd'
    rcases h with ⟨q', g1, g2⟩ | ⟨y2, as, t, r, w1, g1, _⟩ | ⟨r, g1, _⟩
    · rw [hq] at g1
      cases g1
      exact ⟨F, g2⟩
    · exact absurd (cm_xdc hq g1) id
    · exact absurd (cm_xdr hq g1) id
theorem cm_R_end {C : Nat → List cm_V → cm_W → cm_O → Prop} {y F pc len : Nat} {ins : Instr} {lv : cm_L} {st : List cm_V} {w : cm_W} {o : cm_O} {r : Option cm_V} (hd : decode (ia_code y) pc = .ok (ins, len)) (hq : cm_ret y ins len st = some r) (h : cm_R C y F pc lv st w o) : o = (r, w) := by
  cases F with
  | zero => exact absurd h id
  | succ F =>
    obtain ⟨ins', len', hd', h⟩ := h
    rw [hd] at hd'
    cases hd'
    rcases h with ⟨q', g1, g2⟩ | ⟨y2, as, t, r, w1, g1, _⟩ | ⟨r', g1, g2⟩
    · exact absurd (cm_xdr g1 hq) id
    · exact absurd (cm_xcr g1 hq) id
    · rw [hq] at g1
      cases g1
      exact g2
theorem cm_gs {C : Nat → List cm_V → cm_W → cm_O → Prop} {y F i pc len : Nat} {lv : cm_L} {st : List cm_V} {w : cm_W} {o : cm_O} (hd : decode (ia_code y) pc = .ok (.getstatic i, len)) (h : cm_R C y F pc lv st w o) : False := by
  cases F with
  | zero => exact h
  | succ F =>
    obtain ⟨ins, len', hd', h⟩ := h
    rw [hd] at hd'
    cases hd'
    rcases h with ⟨q, g1, _⟩ | ⟨y2, as, t, r, w1, g1, _⟩ | ⟨r, g1, _⟩
    · exact absurd (show none = some q from g1) (by intro h; cases h)
    · exact absurd (show none = some (y2, as, t) from g1) (by intro h; cases h)
    · exact absurd (show none = some r from g1) (by intro h; cases h)
set_option maxRecDepth 100000 in
theorem cm_h176 : decode (ia_code 176) 0 = .ok (.iload_n 0, 1) ∧ decode (ia_code 176) 1 = .ok (.ifCond .lt 19, 3) ∧ decode (ia_code 176) 4 = .ok (.iload_n 0, 1) ∧ decode (ia_code 176) 5 = .ok (.getstatic 25, 3) ∧ decode (ia_code 176) 20 = .ok (.iconst 0, 1) ∧ decode (ia_code 176) 21 = .ok (.ireturn, 1) ∧ ia_maxL 176 = 1 ∧ ia_ret 176 = some .int := ⟨by decide +kernel, by decide +kernel, by decide +kernel, by decide +kernel, by decide +kernel, by decide +kernel, by decide +kernel, by decide +kernel⟩
theorem cm_k176 {C : Nat → List cm_V → cm_W → cm_O → Prop} {F : Nat} {k : Int32} {w : cm_W} {o : cm_O} (h : cm_R C 176 F 0 (cm_ent 176 [.inl k]) [] w o) : k.toInt < 0 ∧ o = (some (.inl (Int32.ofInt 0)), w) := by
  obtain ⟨d0, d1, d4, d5, d20, d21, hm, hr⟩ := cm_h176
  rw [show cm_ent 176 [.inl k] = [some (.inl k)] from by unfold cm_ent; rw [hm]; rfl] at h
  obtain ⟨F1, h⟩ := cm_R_inv (q := (1, [some (.inl k)], [.inl k], w)) d0 rfl h
  cases hc : cm_cmp .lt k 0 with
  | true =>
    obtain ⟨F2, h⟩ := cm_R_inv (q := (20, [some (.inl k)], [], w)) d1 (by show cm_br (cm_cmp .lt k 0) 19 1 [some (.inl k)] [] w = _; rw [hc]; rfl) h
    obtain ⟨F3, h⟩ := cm_R_inv (q := (21, [some (.inl k)], [.inl (Int32.ofInt 0)], w)) d20 rfl h
    refine ⟨aw_lt_t rfl hb_z hc, cm_R_end d21 ?_ h⟩
    show (match ia_ret 176 with
      | some ty => ia_if (ia_nar ty (ia_E (Int32.ofInt 0))) (some (some (Sum.inl (Int32.ofInt 0) : cm_V)))
      | none => none) = _
    rw [hr]
    rfl
  | false =>
    obtain ⟨F2, h⟩ := cm_R_inv (q := (4, [some (.inl k)], [], w)) d1 (by show cm_br (cm_cmp .lt k 0) 19 1 [some (.inl k)] [] w = _; rw [hc]; rfl) h
    obtain ⟨F3, h⟩ := cm_R_inv (q := (5, [some (.inl k)], [.inl k], w)) d4 rfl h
    exact absurd (cm_gs d5 h) id
set_option maxRecDepth 100000 in
theorem cm_h179 : decode (ia_code 179) 0 = .ok (.iload_n 0, 1) ∧ decode (ia_code 179) 1 = .ok (.ifCond .lt 19, 3) ∧ decode (ia_code 179) 4 = .ok (.iload_n 0, 1) ∧ decode (ia_code 179) 5 = .ok (.getstatic 22, 3) ∧ decode (ia_code 179) 20 = .ok (.iconst 0, 1) ∧ decode (ia_code 179) 21 = .ok (.ireturn, 1) ∧ ia_maxL 179 = 1 ∧ ia_ret 179 = some .int := ⟨by decide +kernel, by decide +kernel, by decide +kernel, by decide +kernel, by decide +kernel, by decide +kernel, by decide +kernel, by decide +kernel⟩
theorem cm_k179 {C : Nat → List cm_V → cm_W → cm_O → Prop} {F : Nat} {k : Int32} {w : cm_W} {o : cm_O} (h : cm_R C 179 F 0 (cm_ent 179 [.inl k]) [] w o) : k.toInt < 0 ∧ o = (some (.inl (Int32.ofInt 0)), w) := by
  obtain ⟨d0, d1, d4, d5, d20, d21, hm, hr⟩ := cm_h179
  rw [show cm_ent 179 [.inl k] = [some (.inl k)] from by unfold cm_ent; rw [hm]; rfl] at h
  obtain ⟨F1, h⟩ := cm_R_inv (q := (1, [some (.inl k)], [.inl k], w)) d0 rfl h
  cases hc : cm_cmp .lt k 0 with
  | true =>
    obtain ⟨F2, h⟩ := cm_R_inv (q := (20, [some (.inl k)], [], w)) d1 (by show cm_br (cm_cmp .lt k 0) 19 1 [some (.inl k)] [] w = _; rw [hc]; rfl) h
    obtain ⟨F3, h⟩ := cm_R_inv (q := (21, [some (.inl k)], [.inl (Int32.ofInt 0)], w)) d20 rfl h
    refine ⟨aw_lt_t rfl hb_z hc, cm_R_end d21 ?_ h⟩
    show (match ia_ret 179 with
      | some ty => ia_if (ia_nar ty (ia_E (Int32.ofInt 0))) (some (some (Sum.inl (Int32.ofInt 0) : cm_V)))
      | none => none) = _
    rw [hr]
    rfl
  | false =>
    obtain ⟨F2, h⟩ := cm_R_inv (q := (4, [some (.inl k)], [], w)) d1 (by show cm_br (cm_cmp .lt k 0) 19 1 [some (.inl k)] [] w = _; rw [hc]; rfl) h
    obtain ⟨F3, h⟩ := cm_R_inv (q := (5, [some (.inl k)], [.inl k], w)) d4 rfl h
    exact absurd (cm_gs d5 h) id
theorem cm_pr_neg {l : List Int} {k : Int32} (h : k.toInt < 0) : cm_pr l k = Int32.ofInt 0 := by
  unfold cm_pr
  rw [if_neg (by omega)]
  decide
theorem cm_P_R {C : Nat → List cm_V → cm_W → cm_O → Prop} {y F : Nat} {as : List cm_V} {w : cm_W} {o o' : cm_O} (h : cm_P y as w o) (h' : cm_R C y F 0 (cm_ent y as) [] w o') : o = o' := by
  rcases h with ⟨rfl, k, rfl, rfl⟩ | ⟨rfl, k, rfl, rfl⟩
  · obtain ⟨g1, rfl⟩ := cm_k176 h'
    rw [cm_pr_neg g1]
  · obtain ⟨g1, rfl⟩ := cm_k179 h'
    rw [cm_pr_neg g1]
theorem cm_C_det : ∀ (d y : Nat) (as : List cm_V) (w : cm_W) (o o' : cm_O), cm_C d y as w o → cm_C d y as w o' → o = o' := by
  intro d
  induction d with
  | zero => exact fun _ _ _ _ _ h _ => absurd h id
  | succ d ih =>
    intro y as w o o' h h'
    rcases h with h | ⟨_, F, h⟩
    · rcases h' with h' | ⟨_, F', h'⟩
      · rcases h with ⟨rfl, k, rfl, rfl⟩ | ⟨rfl, k, rfl, rfl⟩
        · rcases h' with ⟨_, k', e, rfl⟩ | ⟨e, _⟩
          · cases e
            rfl
          · exact absurd e (by decide)
        · rcases h' with ⟨e, _⟩ | ⟨_, k', e, rfl⟩
          · exact absurd e (by decide)
          · cases e
            rfl
      · exact cm_P_R h h'
    · rcases h' with h' | ⟨_, F', h'⟩
      · exact (cm_P_R h' h).symm
      · exact cm_R_det ih F F' _ _ _ _ _ _ h h'
/-- one call, one outcome, at any depths -/
theorem cm_det {d d' y : Nat} {as : List cm_V} {w : cm_W} {o o' : cm_O} (h : cm_C d y as w o) (h' : cm_C d' y as w o') : o = o' := cm_C_det (d + d') y as w o o' (cm_C_mono (by omega) h) (cm_C_mono (by omega) h')

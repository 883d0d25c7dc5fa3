/-! ## the plain machine's step is the interval machine's -/
theorem cm_bq (k : Nat) : Nat.beq k k = true := by simp
theorem cm_nx_inj {pc pc' : Nat} {lv lv' : cm_L} {st st' : List cm_V} {w w' : cm_W} (h : cm_nx pc lv st w = some (pc', lv', st', w')) : pc = pc' ∧ lv = lv' ∧ st = st' ∧ w = w' := by
  unfold cm_nx at h
  cases h
  exact ⟨rfl, rfl, rfl, rfl⟩
theorem cm_el_set (lv : cm_L) (i : Nat) (v : Option cm_V) : cm_el (lv.set i v) = (cm_el lv).set i (v.map cm_e) := List.map_set
theorem cm_el_at (lv : cm_L) (i : Nat) {v : Option cm_V} (h : ia_at lv i = some v) : ia_at (cm_el lv) i = some (v.map cm_e) := by
  rw [ia_at_eq] at h ⊢
  unfold cm_el
  rw [List.getElem?_map, h]
  rfl
theorem cm_nblt {u v : Nat} (h : ¬ u < v) : Nat.blt u v = false := by
  cases hz : Nat.blt u v with
  | false => rfl
  | true => exact absurd (ia_blt hz) h
theorem cm_ltb (u v : Nat) : ia_ltb (u, u) (v, v) = some (decide (u < v)) := by
  unfold ia_ltb
  show (match Nat.blt u v with
    | true => some true
    | false => (match Nat.ble v u with
      | true => some false
      | false => none)) = _
  by_cases h : u < v
  · rw [show Nat.blt u v = true from Nat.ble_eq_true_of_le h, decide_eq_true h]
  · rw [cm_nblt h, show Nat.ble v u = true from Nat.ble_eq_true_of_le (by omega), decide_eq_false h]
theorem cm_eqb (u v : Nat) : ia_eqb (u, u) (v, v) = some (decide (u = v)) := by
  unfold ia_eqb
  show (match Nat.blt u v with
    | true => some false
    | false => (match Nat.blt v u with
      | true => some false
      | false => (match Nat.beq u u with
        | true => (match Nat.beq v v with
          | true => (match Nat.beq u v with
            | true => some true
            | false => none)
          | false => none)
        | false => none))) = _
  by_cases h : u < v
  · rw [show Nat.blt u v = true from Nat.ble_eq_true_of_le h, decide_eq_false (by omega)]
  · by_cases h' : v < u
    · rw [cm_nblt h, show Nat.blt v u = true from Nat.ble_eq_true_of_le h', decide_eq_false (by omega)]
    · have he : u = v := by omega
      subst he
      rw [cm_nblt h, cm_bq, decide_eq_true rfl]
theorem cm_cmpN (c : ClassFile.Cond) (u v : Nat) : ia_cmp c (u, u) (v, v) = some (match c with
    | .eq => decide (u = v)
    | .ne => !(decide (u = v))
    | .lt => decide (u < v)
    | .ge => !(decide (u < v))
    | .gt => decide (v < u)
    | .le => !(decide (v < u))) := by
  have hn : ∀ z : Bool, ia_not (some z) = some (!z) := fun z => by cases z <;> rfl
  cases c
  · exact cm_eqb u v
  · exact (congrArg ia_not (cm_eqb u v)).trans (hn _)
  · exact cm_ltb u v
  · exact (congrArg ia_not (cm_ltb u v)).trans (hn _)
  · exact cm_ltb v u
  · exact (congrArg ia_not (cm_ltb v u)).trans (hn _)
theorem cm_cmpk (c : ClassFile.Cond) (a b : Int32) : ia_cmp c (ia_E a, ia_E a) (ia_E b, ia_E b) = some (cm_cmp c a b) := by
  rw [cm_cmpN]
  have e1 : decide (ia_E a = ia_E b) = decide (a = b) := decide_eq_decide.mpr ia_eq.symm
  have e2 : decide (ia_E a < ia_E b) = decide (a < b) := decide_eq_decide.mpr ia_lt.symm
  have e3 : decide (ia_E b < ia_E a) = decide (b < a) := decide_eq_decide.mpr ia_lt.symm
  unfold cm_cmp
  cases c
  · exact congrArg some e1
  · exact congrArg (fun z => some (!z)) e1
  · exact congrArg some e2
  · exact congrArg (fun z => some (!z)) e2
  · exact congrArg some e3
  · exact congrArg (fun z => some (!z)) e3
section CMS
variable {call : Nat → List ia_V → ia_H → Nat → Option ia_O} {ih : ia_K} {y pc pc' len n : Nat} {lv lv' : cm_L} {st st' : List cm_V} {w w' : cm_W}
theorem cm_ldk {kd i ln : Nat} (h : cm_ld kd i ln pc lv st w = some (pc', lv', st', w')) : ia_ld kd i ln ih pc (cm_el lv) (cm_es st) (cm_s w) n 0 0 = ih pc' (cm_el lv') (cm_es st') (cm_s w') n 0 0 := by
  unfold cm_ld at h
  split at h
  · rename_i v hv
    obtain ⟨hk, h⟩ := ia_if_eq h
    obtain ⟨rfl, rfl, rfl, rfl⟩ := cm_nx_inj h
    unfold ia_ld
    rw [cm_el_at lv i hv]
    show ia_if (ia_kd kd (cm_e v)) _ = _
    rw [hk]
    exact ia_nx_eq _ _ _ _ _ _ _ _
  · cases h
theorem cm_stok {kd i ln : Nat} (h : cm_sto kd i ln pc lv st w = some (pc', lv', st', w')) : ia_sto kd i ln ih pc (cm_el lv) (cm_es st) (cm_s w) n 0 0 = ih pc' (cm_el lv') (cm_es st') (cm_s w') n 0 0 := by
  unfold cm_sto at h
  split at h
  · rename_i v t
    obtain ⟨hk, h⟩ := ia_if_eq h
    obtain ⟨rfl, rfl, rfl, rfl⟩ := cm_nx_inj h
    show ia_if (ia_kd kd (cm_e v) && ia_nl (cm_el lv) i) (ia_setK (cm_el lv) i (some (cm_e v)) _) = _
    rw [hk]
    show ia_setK (cm_el lv) i (some (cm_e v)) _ = _
    rw [ia_setK_eq, ia_nx_eq, cm_el_set]
    rfl
  · cases h
theorem cm_stlk {i ln : Nat} (h : cm_stl i ln pc lv st w = some (pc', lv', st', w')) : ia_stl i ln ih pc (cm_el lv) (cm_es st) (cm_s w) n 0 0 = ih pc' (cm_el lv') (cm_es st') (cm_s w') n 0 0 := by
  unfold cm_stl at h
  split at h
  · rename_i v t
    obtain ⟨hk, h⟩ := ia_if_eq h
    obtain ⟨rfl, rfl, rfl, rfl⟩ := cm_nx_inj h
    show ia_if (ia_nl (cm_el lv) i) (ia_setK (cm_el lv) i (some (.inr (.inl v.toBitVec.toNat))) _) = _
    rw [hk]
    show ia_setK (cm_el lv) i (some (.inr (.inl v.toBitVec.toNat))) _ = _
    rw [ia_setK_eq, ia_setK_eq, ia_nx_eq, cm_el_set, cm_el_set]
    rfl
  · cases h
theorem cm_binN {g : Nat → Nat → Nat} {u v : Nat} {lx : List (Option ia_V)} {t : List ia_V} {σ : ia_H} : ia_bin g ih pc lx (.inl (v, v) :: .inl (u, u) :: t) σ n 0 0 = ih (Nat.add pc 1) lx (.inl (g u v, g u v) :: t) σ n 0 0 := by
  show (match Nat.beq u u with
    | true => (match Nat.beq v v with
      | true => ia_pi ih (g u v) (Nat.add pc 1) lx t σ n 0 0
      | false => ia_nx ih (Nat.add pc 1) lx (.inl ia_top :: t) σ n 0 0)
    | false => ia_nx ih (Nat.add pc 1) lx (.inl ia_top :: t) σ n 0 0) = _
  rw [cm_bq, cm_bq]
  exact ia_pi_eq _ _ _ _ _ _ _ _ _
theorem cm_bink {f : Int32 → Int32 → Int32} {g : Nat → Nat → Nat} (hf : ∀ x z, g (ia_E x) (ia_E z) = ia_E (f x z)) (h : cm_bin f pc lv st w = some (pc', lv', st', w')) : ia_bin g ih pc (cm_el lv) (cm_es st) (cm_s w) n 0 0 = ih pc' (cm_el lv') (cm_es st') (cm_s w') n 0 0 := by
  unfold cm_bin at h
  split at h
  · rename_i b a t
    obtain ⟨rfl, rfl, rfl, rfl⟩ := cm_nx_inj h
    refine (cm_binN (u := ia_E a) (v := ia_E b) (t := cm_es t)).trans ?_
    rw [hf]
    rfl
  · cases h
theorem cm_opk (op : Int32 → Int32 → Int32) (x z : Int32) : ia_op op (ia_E x) (ia_E z) = ia_E (op x z) := by
  unfold ia_op
  rw [ia_DE, ia_DE]
theorem cm_unN {g : Nat → Nat} {u : Nat} {lx : List (Option ia_V)} {t : List ia_V} {σ : ia_H} : ia_un g ih pc lx (.inl (u, u) :: t) σ n 0 0 = ih (Nat.add pc 1) lx (.inl (g u, g u) :: t) σ n 0 0 := by
  show (match Nat.beq u u with
    | true => ia_pi ih (g u) (Nat.add pc 1) lx t σ n 0 0
    | false => ia_nx ih (Nat.add pc 1) lx (.inl ia_top :: t) σ n 0 0) = _
  rw [cm_bq]
  exact ia_pi_eq _ _ _ _ _ _ _ _ _
theorem cm_unk {g : Nat → Nat} {a b : Int32} {t : List cm_V} (hg : g (ia_E a) = ia_E b) : ia_un g ih pc (cm_el lv) (cm_es (.inl a :: t)) (cm_s w) n 0 0 = ih (Nat.add pc 1) (cm_el lv) (cm_es (.inl b :: t)) (cm_s w) n 0 0 := by
  refine (cm_unN (u := ia_E a) (t := cm_es t)).trans ?_
  rw [hg]
  rfl
theorem cm_jmpk {o : Int} (h : cm_jmp o pc lv st w = some (pc', lv', st', w')) : ia_jmp o ih pc (cm_el lv) (cm_es st) (cm_s w) n 0 0 = ih pc' (cm_el lv') (cm_es st') (cm_s w') n 0 0 := by
  unfold cm_jmp at h
  unfold ia_jmp
  split at h
  · rename_i q hq
    rw [hq]
    obtain ⟨rfl, rfl, rfl, rfl⟩ := cm_nx_inj h
    exact ia_nx_eq _ _ _ _ _ _ _ _
  · cases h
theorem cm_brk {r : Bool} {o : Int} (h : cm_br r o pc lv st w = some (pc', lv', st', w')) : ia_br (some r) o ih pc (cm_el lv) (cm_es st) (cm_s w) n 0 0 = ih pc' (cm_el lv') (cm_es st') (cm_s w') n 0 0 := by
  unfold cm_br at h
  unfold ia_br
  split at h
  · rename_i q hq
    rw [hq]
    split at h
    · obtain ⟨rfl, rfl, rfl, rfl⟩ := cm_nx_inj h
      exact ia_nx_eq _ _ _ _ _ _ _ _
    · obtain ⟨rfl, rfl, rfl, rfl⟩ := cm_nx_inj h
      exact ia_nx_eq _ _ _ _ _ _ _ _
  · cases h
theorem cm_in_ok {a : Int32} {k : Nat} (h : cm_in a k = true) : 2147483648 ≤ ia_E a ∧ ia_E a - 2147483648 < k ∧ a.toInt.toNat = ia_E a - 2147483648 := by
  unfold cm_in at h
  rw [Bool.and_eq_true, decide_eq_true_eq] at h
  have h2 := ia_blt h.2
  have e := ia_toInt a
  omega
theorem cm_ixk {α : Type} {tg k : Nat} {c : Nat × Nat × List Nat} {a : Int32} (hs : cm_sh k = some c) (h1 : Nat.beq c.1 tg = true) (h2 : cm_in a c.2.1 = true) (f : ia_C → Nat → Option α) : ia_ix tg (cm_s w) k (ia_E a, ia_E a) f = f (c.1, c.2.1, cm_tab c.2.1 (fun i => cm_e (cm_v w k i (cm_code c i)))) a.toInt.toNat := by
  obtain ⟨e1, e2, e3⟩ := cm_in_ok h2
  unfold ia_ix
  rw [cm_s_get hs]
  show ia_if (Nat.beq c.1 tg && (Nat.beq (ia_E a) (ia_E a) && (Nat.ble 2147483648 (ia_E a) && Nat.blt (Nat.sub (ia_E a) 2147483648) c.2.1))) (ia_frc (Nat.sub (ia_E a) 2147483648) (fun j => f (c.1, c.2.1, cm_tab c.2.1 (fun i => cm_e (cm_v w k i (cm_code c i)))) j)) = _
  have q1 : Nat.ble 2147483648 (ia_E a) = true := Nat.ble_eq_true_of_le e1
  have q2 : Nat.blt (Nat.sub (ia_E a) 2147483648) c.2.1 = true := Nat.ble_eq_true_of_le e2
  rw [h1, cm_bq, q1, q2, ia_frc_eq, e3]
  rfl
theorem cm_alk {tg : Nat} (h : cm_al tg pc lv st w = some (pc', lv', st', w')) : ia_al tg ih pc (cm_el lv) (cm_es st) (cm_s w) n 0 0 = ih pc' (cm_el lv') (cm_es st') (cm_s w') n 0 0 := by
  unfold cm_al at h
  split at h
  · rename_i a k t
    split at h
    · rename_i c hs
      obtain ⟨hq, h⟩ := ia_if_eq h
      obtain ⟨rfl, rfl, rfl, rfl⟩ := cm_nx_inj h
      rw [Bool.and_eq_true] at hq
      obtain ⟨e1, e2, e3⟩ := cm_in_ok hq.2
      show ia_ix tg (cm_s w) k (ia_E a, ia_E a) _ = _
      rw [cm_ixk hs hq.1 hq.2]
      show (match ia_get2 (cm_tab c.2.1 (fun i => cm_e (cm_v w k i (cm_code c i)))) a.toInt.toNat with
        | some v => ia_nx ih (Nat.add pc 1) (cm_el lv) (v :: cm_es t) (cm_s w) n 0 0
        | none => none) = _
      rw [cm_cell_at (by omega)]
      exact ia_nx_eq _ _ _ _ _ _ _ _
    · cases h
  · cases h
theorem cm_set2 {α : Type} {k i : Nat} {v : cm_V} {c : Nat × Nat × List Nat} {f : ia_H → Option α} (hs : cm_sh k = some c) (hi : i < c.2.1) (hp : cm_put w k i (cm_code c i) v = some w') : ia_set2K (cm_tab c.2.1 (fun i => cm_e (cm_v w k i (cm_code c i)))) i (cm_e v) (fun fs => ia_set2K (cm_s w) k (c.1, c.2.1, fs) f) = f (cm_s w') := by
  rw [ia_set2K_eq, ia_set2K_eq, cm_s_put hs hi hp]
theorem cm_ask {tg : Nat} {g : Int32 → Int32} {gi : ia_V → Option ia_V} (hg : ∀ x, gi (.inl (ia_E x, ia_E x)) = some (.inl (ia_E (g x), ia_E (g x)))) (h : cm_as tg g pc lv st w = some (pc', lv', st', w')) : ia_as tg gi ih pc (cm_el lv) (cm_es st) (cm_s w) n 0 0 = ih pc' (cm_el lv') (cm_es st') (cm_s w') n 0 0 := by
  unfold cm_as at h
  split at h
  · rename_i x a k t
    split at h
    · rename_i c hs
      obtain ⟨hq, h⟩ := ia_if_eq h
      obtain ⟨rfl, rfl, rfl, rfl⟩ := cm_nx_inj h
      simp only [Bool.and_eq_true] at hq
      obtain ⟨q1, q2, q3⟩ := hq
      obtain ⟨e1, e2, e3⟩ := cm_in_ok q2
      show (match gi (.inl (ia_E x, ia_E x)) with
        | some v => ia_ix tg (cm_s w) k (ia_E a, ia_E a) (fun c j => ia_set2K c.2.2 j v (fun fs => ia_set2K (cm_s w) k (c.1, c.2.1, fs) (fun σ => ia_nx ih (Nat.add pc 1) (cm_el lv) (cm_es t) σ n 0 0)))
        | none => none) = _
      rw [hg]
      show ia_ix tg (cm_s w) k (ia_E a, ia_E a) _ = _
      rw [cm_ixk hs q1 q2]
      have hp : cm_put w k a.toInt.toNat (cm_code c a.toInt.toNat) (.inl (g x)) = some (cm_u1 w k a.toInt.toNat (g x)) := by
        rw [ia_beq q3]; rfl
      refine (cm_set2 (v := .inl (g x)) hs (by omega) hp).trans ?_
      exact ia_nx_eq _ _ _ _ _ _ _ _
    · cases h
  · cases h
theorem cm_aslk (h : cm_asl pc lv st w = some (pc', lv', st', w')) : ia_as 51 ia_gl ih pc (cm_el lv) (cm_es st) (cm_s w) n 0 0 = ih pc' (cm_el lv') (cm_es st') (cm_s w') n 0 0 := by
  unfold cm_asl at h
  split at h
  · rename_i x a k t
    split at h
    · rename_i c hs
      obtain ⟨hq, h⟩ := ia_if_eq h
      obtain ⟨rfl, rfl, rfl, rfl⟩ := cm_nx_inj h
      simp only [Bool.and_eq_true] at hq
      obtain ⟨q1, q2, q3⟩ := hq
      obtain ⟨e1, e2, e3⟩ := cm_in_ok q2
      show ia_ix 51 (cm_s w) k (ia_E a, ia_E a) (fun c j => ia_set2K c.2.2 j (.inr (.inl x.toBitVec.toNat)) (fun fs => ia_set2K (cm_s w) k (c.1, c.2.1, fs) (fun σ => ia_nx ih (Nat.add pc 1) (cm_el lv) (cm_es t) σ n 0 0))) = _
      rw [cm_ixk hs q1 q2]
      have hp : cm_put w k a.toInt.toNat (cm_code c a.toInt.toNat) (.inr (.inl x)) = some (cm_u2 w k a.toInt.toNat x) := by
        rw [ia_beq q3]; rfl
      refine (cm_set2 (v := .inr (.inl x)) hs (by omega) hp).trans ?_
      exact ia_nx_eq _ _ _ _ _ _ _ _
    · cases h
  · cases h
theorem cm_nrN (ty : FieldType) (u : Nat) : ia_nr ty (u, u) = (ia_E (vp_nar ty (ia_D u)), ia_E (vp_nar ty (ia_D u))) := by
  unfold ia_nr
  show (match Nat.beq u u with
    | true => ia_frc (ia_E (vp_nar ty (ia_D u))) (fun r => (r, r))
    | false => ia_top) = _
  rw [cm_bq]
  exact ia_frc_eq _ _
theorem cm_gnk (ty : FieldType) (x : Int32) : ia_gn ty (.inl (ia_E x, ia_E x)) = some (.inl (ia_E (vp_nar ty x), ia_E (vp_nar ty x))) := by
  show some (Sum.inl (ia_nr ty (ia_E x, ia_E x))) = _
  rw [cm_nrN, ia_DE]
theorem cm_kn_ok {o q : Nat} (h : cm_kn st o = q) (hq : q ≠ 99) : ∃ k c, ia_at st o = some (.inr (.inr (some k))) ∧ cm_sh k = some c ∧ c.1 = q := by
  unfold cm_kn at h
  split at h
  · rename_i k hk
    split at h
    · rename_i c hc
      exact ⟨k, c, hk, hc, h⟩
    · exact absurd h.symm hq
  · exact absurd h.symm hq
theorem cm_invk {i : Nat} (h : cm_inv y i pc lv st w = some (pc', lv', st', w')) : ia_inv call y 1 i ih pc (cm_el lv) (cm_es st) (cm_s w) n 0 0 = ih pc' (cm_el lv') (cm_es st') (cm_s w') n 0 0 := by
  unfold cm_inv at h
  unfold ia_inv
  split at h
  · rename_i z0 z1 z2 z3 hpl
    rw [hpl]
    split at h
    · rename_i k dp d sp s t
      split at h
      · rename_i cs hcs
        split at h
        · rename_i cd hcd
          obtain ⟨hq, h⟩ := ia_if_eq h
          obtain ⟨rfl, rfl, rfl, rfl⟩ := cm_nx_inj h
          simp only [Bool.and_eq_true, decide_eq_true_eq] at hq
          obtain ⟨q1, q2, q3, q4, q5, q6, q7, q8, q9, q10⟩ := hq
          subst q2
          subst q3
          subst q4
          have q5' := ia_blt q5
          have q6' := ia_beq q6
          have q7' := ia_beq q7
          have e0 : ia_E 0 = 2147483648 := ia_E0
          have ek : ia_E (Int32.ofNat cs.2.1) = cs.2.1 + 2147483648 := ia_Elen q5'
          show ia_if ((Nat.beq 1 1 && Nat.ble (ia_sz (cm_es t)) 8) && ((Nat.beq (ia_E 0) 2147483648 && Nat.beq (ia_E 0) 2147483648) && ((Nat.beq (ia_E 0) 2147483648 && Nat.beq (ia_E 0) 2147483648) && (Nat.beq (ia_E (Int32.ofNat cs.2.1)) (ia_E (Int32.ofNat cs.2.1)) && Nat.ble 2147483648 (ia_E (Int32.ofNat cs.2.1)))))) (match ia_get2 (cm_s w) s with
            | some cs' => (match ia_get2 (cm_s w) d with
              | some cd' => ia_if ((Nat.beq cs'.1 cd'.1 && (Nat.beq cs'.1 50 || Nat.beq cs'.1 51)) && (Nat.ble (Nat.sub (ia_E (Int32.ofNat cs.2.1)) 2147483648) cs'.2.1 && Nat.beq (Nat.sub (ia_E (Int32.ofNat cs.2.1)) 2147483648) cd'.2.1)) (ia_set2K (cm_s w) d (cd'.1, cd'.2.1, cs'.2.2) (fun σ => ia_nx ih (Nat.add pc 3) (cm_el lv) (cm_es t) σ n 0 0))
              | none => none)
            | none => none) = _
          rw [e0, ek, q1, cm_bq, cm_bq, cm_bq, show Nat.ble 2147483648 (cs.2.1 + 2147483648) = true from Nat.ble_eq_true_of_le (by omega), cm_s_get hcs, cm_s_get hcd]
          show ia_if ((Nat.beq cs.1 cd.1 && (Nat.beq cs.1 50 || Nat.beq cs.1 51)) && (Nat.ble (Nat.sub (cs.2.1 + 2147483648) 2147483648) cs.2.1 && Nat.beq (Nat.sub (cs.2.1 + 2147483648) 2147483648) cd.2.1)) (ia_set2K (cm_s w) d (cd.1, cd.2.1, cm_tab cs.2.1 (fun i => cm_e (cm_v w s i (cm_code cs i)))) (fun σ => ia_nx ih (Nat.add pc 3) (cm_el lv) (cm_es t) σ n 0 0)) = _
          rw [q7, q8, show Nat.ble (Nat.sub (cs.2.1 + 2147483648) 2147483648) cs.2.1 = true from Nat.ble_eq_true_of_le (by show cs.2.1 + 2147483648 - 2147483648 ≤ _; omega), show Nat.beq (Nat.sub (cs.2.1 + 2147483648) 2147483648) cd.2.1 = true from by rw [show Nat.sub (cs.2.1 + 2147483648) 2147483648 = cd.2.1 from by show cs.2.1 + 2147483648 - 2147483648 = _; omega]; exact cm_bq _]
          show ia_set2K (cm_s w) d (cd.1, cd.2.1, cm_tab cs.2.1 (fun i => cm_e (cm_v w s i (cm_code cs i)))) _ = _
          rw [ia_set2K_eq, cm_s_set (w' := cm_cp w d s (16 * ((cs.2.1 + 15) / 16))) hcd ?_ (fun a b z hz => cm_v_cp (fun q => hz q.1))]
          · exact ia_nx_eq _ _ _ _ _ _ _ _
          · rw [q6']
            apply cm_tab_congr16
            intro j hj
            rw [cm_v_cp_self hj]
            have c1 : cs.2.2 = [] := List.isEmpty_iff.mp q9
            have c2 : cd.2.2 = [] := List.isEmpty_iff.mp q10
            unfold cm_code
            rw [c1, c2, q7']
        · cases h
      · cases h
    · cases h
  · rename_i z0 z1 z2 z3 hpl
    rw [hpl]
    split at h
    · rename_i b a t
      obtain ⟨hq, h⟩ := ia_if_eq h
      obtain ⟨rfl, rfl, rfl, rfl⟩ := cm_nx_inj h
      obtain ⟨u, hu⟩ : ∃ u, u = ia_E a := ⟨_, rfl⟩
      obtain ⟨v, hv⟩ : ∃ v, v = ia_E b := ⟨_, rfl⟩
      have es : cm_es (.inl b :: .inl a :: t) = .inl (v, v) :: .inl (u, u) :: cm_es t := by rw [hu, hv]; rfl
      rw [es]
      show ia_if ((Nat.beq 1 1 && Nat.ble (ia_sz (cm_es t)) 8) && (Nat.beq u u && Nat.beq v v)) (match Nat.blt v u with
        | true => ia_nx ih (Nat.add pc 3) (cm_el lv) (.inl (v, v) :: cm_es t) (cm_s w) n 0 0
        | false => ia_nx ih (Nat.add pc 3) (cm_el lv) (.inl (u, u) :: cm_es t) (cm_s w) n 0 0) = _
      rw [hq, cm_bq, cm_bq, cm_bq]
      show (match Nat.blt v u with
        | true => ia_nx ih (Nat.add pc 3) (cm_el lv) (.inl (v, v) :: cm_es t) (cm_s w) n 0 0
        | false => ia_nx ih (Nat.add pc 3) (cm_el lv) (.inl (u, u) :: cm_es t) (cm_s w) n 0 0) = _
      split
      · rename_i hz
        have hlt := ia_blt hz
        rw [hu, hv] at hlt
        rw [if_pos (ia_lt.mpr hlt), ia_nx_eq, hv]
        rfl
      · rename_i hz
        have hlt := ia_nblt hz
        rw [hu, hv] at hlt
        rw [if_neg (fun q => by have h2 := ia_lt.mp q; omega), ia_nx_eq, hu]
        rfl
    · cases h
  · rename_i z0 z1 z2 z3 hpl
    rw [hpl]
    split at h
    · rename_i b a t
      obtain ⟨hq, h⟩ := ia_if_eq h
      obtain ⟨rfl, rfl, rfl, rfl⟩ := cm_nx_inj h
      obtain ⟨u, hu⟩ : ∃ u, u = ia_E a := ⟨_, rfl⟩
      obtain ⟨v, hv⟩ : ∃ v, v = ia_E b := ⟨_, rfl⟩
      have es : cm_es (.inl b :: .inl a :: t) = .inl (v, v) :: .inl (u, u) :: cm_es t := by rw [hu, hv]; rfl
      rw [es]
      show ia_if ((Nat.beq 1 1 && Nat.ble (ia_sz (cm_es t)) 8) && (Nat.beq u u && Nat.beq v v)) (match Nat.blt u v with
        | true => ia_nx ih (Nat.add pc 3) (cm_el lv) (.inl (v, v) :: cm_es t) (cm_s w) n 0 0
        | false => ia_nx ih (Nat.add pc 3) (cm_el lv) (.inl (u, u) :: cm_es t) (cm_s w) n 0 0) = _
      rw [hq, cm_bq, cm_bq, cm_bq]
      show (match Nat.blt u v with
        | true => ia_nx ih (Nat.add pc 3) (cm_el lv) (.inl (v, v) :: cm_es t) (cm_s w) n 0 0
        | false => ia_nx ih (Nat.add pc 3) (cm_el lv) (.inl (u, u) :: cm_es t) (cm_s w) n 0 0) = _
      split
      · rename_i hz
        have hlt := ia_blt hz
        rw [hu, hv] at hlt
        rw [if_pos (ia_lt.mpr hlt), ia_nx_eq, hv]
        rfl
      · rename_i hz
        have hlt := ia_nblt hz
        rw [hu, hv] at hlt
        rw [if_neg (fun q => by have h2 := ia_lt.mp q; omega), ia_nx_eq, hu]
        rfl
    · cases h
  · cases h
end CMS

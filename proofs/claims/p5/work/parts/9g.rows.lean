/-! ## rows for the class's methods: arraycopy, min, max, arrays of references, remainders, switches (wip/p2/9g.rows.lean.txt) -/
noncomputable def aw_cpf (d s len n : Nat) : Bool := match cm_sh s with
  | some cs => (match cm_sh d with
    | some cd => Nat.beq cs.2.1 len && (Nat.beq (16 * ((cs.2.1 + 15) / 16)) n && (Nat.blt cs.2.1 2147483648 && (Nat.beq cs.2.1 cd.2.1 && (Nat.beq cs.1 cd.1 && ((Nat.beq cs.1 50 || Nat.beq cs.1 51) && (cs.2.2.isEmpty && cd.2.2.isEmpty))))))
    | none => false)
  | none => false
noncomputable def aw_aar (n tg i r : Nat) : Bool := match cm_sh n with
  | some c => Nat.beq c.1 tg && (Nat.blt i c.2.1 && Nat.beq (cm_code c i) (r + 3))
  | none => false
section AW4
variable {C : Nat → List cm_V → cm_W → cm_O → Prop} {y pc : Nat} {lv : cm_L} {st : List cm_V} {w : cm_W} {Q : cm_O → Prop}
theorem aw_acp {i d s len n a b c e : Nat} {k dp sp : Int32} (hp : ia_pl (ia_cls y) i = some (3, a, b, c, e)) (hf : aw_cpf d s len n = true) (hk : k = Int32.ofNat len) (hdp : dp = 0) (hsp : sp = 0) (hz : Nat.ble (ia_sz (cm_es st)) 8 = true) (hd : decode (ia_code y) pc = .ok (.invokestatic i, 3)) (kk : cm_X C y (pc + 3) lv st (cm_cp w d s n) Q) : cm_X C y pc lv (.inl k :: .inl dp :: .inr (.inr (some d)) :: .inl sp :: .inr (.inr (some s)) :: st) w Q := by
  unfold aw_cpf at hf
  split at hf
  · rename_i cs hcs
    split at hf
    · rename_i cd hcd
      simp only [Bool.and_eq_true] at hf
      obtain ⟨f1, f2, f3, f4, f5, f6, f7, f8⟩ := hf
      have e1 := ia_beq f1
      have e2 := ia_beq f2
      refine cm_X_do (q := (pc + 3, lv, st, cm_cp w d s n)) hd ?_ kk
      show cm_inv y i pc lv (.inl k :: .inl dp :: .inr (.inr (some d)) :: .inl sp :: .inr (.inr (some s)) :: st) w = _
      unfold cm_inv
      rw [hp]
      show (match cm_sh s with
        | some cs => (match cm_sh d with
          | some cd => ia_if (Nat.ble (ia_sz (cm_es st)) 8 && (decide (sp = 0) && (decide (dp = 0) && (decide (k = Int32.ofNat cs.2.1) && (Nat.blt cs.2.1 2147483648 && (Nat.beq cs.2.1 cd.2.1 && (Nat.beq cs.1 cd.1 && ((Nat.beq cs.1 50 || Nat.beq cs.1 51) && (cs.2.2.isEmpty && cd.2.2.isEmpty))))))))) (cm_nx (Nat.add pc 3) lv st (cm_cp w d s (16 * ((cs.2.1 + 15) / 16))))
          | none => none)
        | none => none) = _
      rw [hcs]
      show (match cm_sh d with
          | some cd => ia_if (Nat.ble (ia_sz (cm_es st)) 8 && (decide (sp = 0) && (decide (dp = 0) && (decide (k = Int32.ofNat cs.2.1) && (Nat.blt cs.2.1 2147483648 && (Nat.beq cs.2.1 cd.2.1 && (Nat.beq cs.1 cd.1 && ((Nat.beq cs.1 50 || Nat.beq cs.1 51) && (cs.2.2.isEmpty && cd.2.2.isEmpty))))))))) (cm_nx (Nat.add pc 3) lv st (cm_cp w d s (16 * ((cs.2.1 + 15) / 16))))
          | none => none) = _
      rw [hcd]
      refine cm_ifk (by rw [hz, decide_eq_true hsp, decide_eq_true hdp, decide_eq_true (show k = Int32.ofNat cs.2.1 by rw [e1]; exact hk), f3, f4, f5, f6, f7, f8]; rfl) ?_
      rw [e2]
      rfl
    · cases hf
  · cases hf
theorem aw_min {i a1 b1 c1 e1 : Nat} {x z : Int32} {a b : Int} (hp : ia_pl (ia_cls y) i = some (7, a1, b1, c1, e1)) (hz : Nat.ble (ia_sz (cm_es st)) 8 = true) (hd : decode (ia_code y) pc = .ok (.invokestatic i, 3)) (hx : x.toInt = a) (hz' : z.toInt = b) (k : ∀ v : Int32, (v.toInt = a ∧ a ≤ b) ∨ (v.toInt = b ∧ b < a) → cm_X C y (pc + 3) lv (.inl v :: st) w Q) : cm_X C y pc lv (.inl z :: .inl x :: st) w Q := by
  refine cm_X_do (q := (pc + 3, lv, .inl (if z < x then z else x) :: st, w)) hd ?_ (k _ ?_)
  · show cm_inv y i pc lv (.inl z :: .inl x :: st) w = _
    unfold cm_inv
    rw [hp]
    exact cm_ifk hz rfl
  · by_cases h : z < x
    · rw [if_pos h]
      rw [Int32.lt_iff_toInt_lt, hx, hz'] at h
      exact .inr ⟨hz', h⟩
    · rw [if_neg h]
      rw [Int32.lt_iff_toInt_lt, hx, hz'] at h
      exact .inl ⟨hx, by omega⟩
theorem aw_max {i a1 b1 c1 e1 : Nat} {x z : Int32} {a b : Int} (hp : ia_pl (ia_cls y) i = some (17, a1, b1, c1, e1)) (hz : Nat.ble (ia_sz (cm_es st)) 8 = true) (hd : decode (ia_code y) pc = .ok (.invokestatic i, 3)) (hx : x.toInt = a) (hz' : z.toInt = b) (k : ∀ v : Int32, (v.toInt = a ∧ b ≤ a) ∨ (v.toInt = b ∧ a < b) → cm_X C y (pc + 3) lv (.inl v :: st) w Q) : cm_X C y pc lv (.inl z :: .inl x :: st) w Q := by
  refine cm_X_do (q := (pc + 3, lv, .inl (if x < z then z else x) :: st, w)) hd ?_ (k _ ?_)
  · show cm_inv y i pc lv (.inl z :: .inl x :: st) w = _
    unfold cm_inv
    rw [hp]
    exact cm_ifk hz rfl
  · by_cases h : x < z
    · rw [if_pos h]
      rw [Int32.lt_iff_toInt_lt, hx, hz'] at h
      exact .inr ⟨hz', h⟩
    · rw [if_neg h]
      rw [Int32.lt_iff_toInt_lt, hx, hz'] at h
      exact .inl ⟨hx, by omega⟩
theorem aw_aaload {n tg i r : Nat} {x : Int32} {e : Int} (hg : aw_aar n tg i r = true) (hx : x.toInt = e) (he : e = (i : Int)) (hd : decode (ia_code y) pc = .ok (.aaload, 1)) (hi : cm_do y pc .aaload 1 lv (.inl x :: .inr (.inr (some n)) :: st) w = cm_al tg pc lv (.inl x :: .inr (.inr (some n)) :: st) w) (k : cm_X C y (pc + 1) lv (.inr (.inr (some r)) :: st) w Q) : cm_X C y pc lv (.inl x :: .inr (.inr (some n)) :: st) w Q := by
  have e1 : x.toInt.toNat = i := by rw [hx, he]; exact Int.toNat_natCast i
  unfold aw_aar at hg
  split at hg
  · rename_i c hc
    simp only [Bool.and_eq_true] at hg
    obtain ⟨g1, g2, g3⟩ := hg
    have e2 := ia_blt g2
    have e3 := ia_beq g3
    refine cm_X_do (q := (pc + 1, lv, .inr (.inr (some r)) :: st, w)) hd ?_ k
    rw [hi]
    unfold cm_al
    show (match cm_sh n with
      | some c => ia_if (Nat.beq c.1 tg && cm_in x c.2.1) (cm_nx (Nat.add pc 1) lv (cm_v w n x.toInt.toNat (cm_code c x.toInt.toNat) :: st) w)
      | none => none) = _
    rw [hc]
    refine cm_ifk (by rw [g1, wk_in (show 0 ≤ x.toInt by omega) (show x.toInt < c.2.1 by omega)]; rfl) ?_
    rw [e1, e3]
    rfl
  · cases hg
theorem aw_rem {x z : Int32} {a b : Int} (hx : x.toInt = a) (hz : z.toInt = b) (h1 : 0 ≤ a) (h2 : 0 < b) : (x - x / z * z).toInt = a % b ∧ (x / z).toInt = a / b := by
  have ha := Int32.toInt_lt x
  have hb := Int32.toInt_lt z
  have hd1 : 0 ≤ a / b := Int.ediv_nonneg h1 (Int.le_of_lt h2)
  have hd2 : a / b ≤ a := Int.ediv_le_self b h1
  have e1 : (x / z).toInt = a / b := by
    rw [Int32.toInt_div, hx, hz, Int.tdiv_eq_ediv_of_nonneg h1]
    exact Int.bmod_eq_of_le (by omega) (by omega)
  have hm1 : 0 ≤ a % b := Int.emod_nonneg a (by omega)
  have hm2 := Int.emod_add_mul_ediv a b
  have hc : a / b * b = b * (a / b) := Int.mul_comm _ _
  have e2 : (x / z * z).toInt = a / b * b := by
    rw [Int32.toInt_mul, e1, hz]
    have hnn : 0 ≤ a / b * b := Int.mul_nonneg hd1 (Int.le_of_lt h2)
    exact Int.bmod_eq_of_le (by omega) (by omega)
  refine ⟨?_, e1⟩
  have hnn : 0 ≤ a / b * b := Int.mul_nonneg hd1 (Int.le_of_lt h2)
  rw [Int32.toInt_sub, e2, hx]
  have : a - a / b * b = a % b := by omega
  rw [this]
  have hmb := Int.emod_lt_of_pos a h2
  exact Int.bmod_eq_of_le (by omega) (by omega)
theorem aw_nz {z : Int32} {b : Int} (hz : z.toInt = b) (h2 : 0 < b) : z ≠ 0 := fun e => by
  subst e
  rw [hb_z] at hz
  omega
theorem aw_irem {x z : Int32} {a b : Int} (hd : decode (ia_code y) pc = .ok (.irem, 1)) (hx : x.toInt = a) (hz : z.toInt = b) (h1 : 0 ≤ a) (h2 : 0 < b) (k : ∀ v : Int32, v.toInt = a % b → cm_X C y (pc + 1) lv (.inl v :: st) w Q) : cm_X C y pc lv (.inl z :: .inl x :: st) w Q := wk_irem hd (aw_nz hz h2) (k _ (aw_rem hx hz h1 h2).1)
theorem aw_idiv {x z : Int32} {a b : Int} (hd : decode (ia_code y) pc = .ok (.idiv, 1)) (hx : x.toInt = a) (hz : z.toInt = b) (h1 : 0 ≤ a) (h2 : 0 < b) (k : ∀ v : Int32, v.toInt = a / b → cm_X C y (pc + 1) lv (.inl v :: st) w Q) : cm_X C y pc lv (.inl z :: .inl x :: st) w Q := wk_idiv hd (aw_nz hz h2) (k _ (aw_rem hx hz h1 h2).2)
theorem aw_jmp {o : Int} {t : Nat} {st' : List cm_V} {ins : Instr} {len : Nat} (hd : decode (ia_code y) pc = .ok (ins, len)) (hi : cm_do y pc ins len lv st w = cm_jmp o pc lv st' w) (ht : Int.add (Int.ofNat pc) o = .ofNat t) (k : cm_X C y t lv st' w Q) : cm_X C y pc lv st w Q := by
  refine cm_X_do (q := (t, lv, st', w)) hd ?_ k
  rw [hi]
  unfold cm_jmp
  rw [ht]
  rfl
end AW4
theorem aw_cpG {w : cm_W} {d s n : Nat} (hg : sv_gr sg d = []) (h : sv_w sg w) : sv_w sg (cm_cp w d s n) := fun k i => by
  show sv_in (sv_g sg k i) (if k = d ∧ i < n then w.1 s i else w.1 k i)
  by_cases e : k = d ∧ i < n
  · rw [if_pos e, e.1]
    unfold sv_g
    rw [hg]
    exact sv_in_top _
  · rw [if_neg e]
    exact h k i
theorem aw_cp_o {w : cm_W} {d s n k i : Nat} (h : k ≠ d) : (cm_cp w d s n).1 k i = w.1 k i := by
  show (if k = d ∧ i < n then w.1 s i else w.1 k i) = _
  rw [if_neg (fun z => h z.1)]
theorem aw_cp_i {w : cm_W} {d s n i : Nat} (h : i < n) : (cm_cp w d s n).1 d i = w.1 s i := by
  show (if d = d ∧ i < n then w.1 s i else w.1 d i) = _
  rw [if_pos ⟨rfl, h⟩]
theorem aw_tv {w : cm_W} {k i : Nat} (hg : sv_gr sg k = []) : sv_g sg k i = sv_top := by
  unfold sv_g
  rw [hg]
  rfl

/-! ## plates by which somebody ate: pure -/
theorem at_hz (j : Nat) : hu_n 0 j = 0 := by
  unfold hu_n
  rw [Int32.zero_shiftRight, Int32.zero_and]
theorem at_hb0 (st : Nat → Int32) : ∀ (n j : Nat) (a m : Int32), hbh st 0 n j a m = (a, m)
  | 0, _, _, _ => rfl
  | n + 1, j, a, m => by
    show hbh st 0 n (j + 1) (a + hu_n 0 j * st j) (if 0 < hu_n 0 j then (if st j < m then m else st j) else m) = (a, m)
    rw [at_hz, Int32.zero_mul, Int32.add_zero, if_neg (by decide)]
    exact at_hb0 st n (j + 1) a m
/-- what isn't in the plate counts nothing -/
theorem at_hbc {st : Nat → Int32} {p : Int32} : ∀ (k n j : Nat) (a m : Int32), (∀ i, j + n ≤ i → i < j + n + k → hu_n p i = 0) → hbh st p (n + k) j a m = hbh st p n j a m := by
  intro k n
  induction n with
  | zero =>
    induction k with
    | zero => exact fun _ _ _ _ => rfl
    | succ k ih =>
      intro j a m h
      rw [show 0 + (k + 1) = (0 + k) + 1 from by omega]
      show hbh st p (0 + k) (j + 1) (a + hu_n p j * st j) (if 0 < hu_n p j then (if st j < m then m else st j) else m) = (a, m)
      rw [h j (by omega) (by omega), Int32.zero_mul, Int32.add_zero, if_neg (by decide)]
      exact ih (j + 1) a m (fun i h1 h2 => h i (by omega) (by omega))
  | succ n ih =>
    intro j a m h
    rw [show n + 1 + k = (n + k) + 1 from by omega]
    exact ih (j + 1) _ _ (fun i h1 h2 => h i (by omega) (by omega))
theorem at_hbe {st st' : Nat → Int32} {p : Int32} : ∀ (n j : Nat) (a m : Int32), (∀ i, j ≤ i → i < j + n → st i = st' i) → hbh st p n j a m = hbh st' p n j a m
  | 0, _, _, _, _ => rfl
  | n + 1, j, a, m, h => by
    show hbh st p n (j + 1) (a + hu_n p j * st j) (if 0 < hu_n p j then (if st j < m then m else st j) else m) = hbh st' p n (j + 1) (a + hu_n p j * st' j) (if 0 < hu_n p j then (if st' j < m then m else st' j) else m)
    rw [h j (Nat.le_refl j) (by omega)]
    exact at_hbe n (j + 1) _ _ (fun i h1 h2 => h i (by omega) (by omega))
/-- the hunger behind a plate of F foods at most; below 0: never so -/
def at_H (st : Nat → Int32) (F : Nat) (h p : Int32) : Int32 := if p = 0 then h else hbhR h (hbh st p F 0 (Int32.ofInt 0) (Int32.ofInt 0))
def at_P (st : Nat → Int32) (F : Nat) (sp h d p : Int32) : Bool := !(decide (at_H st F h p < 0)) && decide (at_H st F h p / sp = d)
theorem at_max (a b : Int32) : (if a < b then b else a) = if b < a then a else b := by
  by_cases h1 : a < b
  · rw [if_pos h1, if_neg (fun h2 => by rw [Int32.lt_iff_toInt_lt] at h1 h2; omega)]
  · rw [if_neg h1]
    by_cases h2 : b < a
    · rw [if_pos h2]
    · rw [if_neg h2]
      rw [Int32.lt_iff_toInt_lt] at h1 h2
      exact Int32.toInt_inj.mp (by omega)
/-- which foods are in the plate -/
def at_mk (p : Int32) : Nat → Nat → Int32 → Int32
  | 0, _, b => b
  | n + 1, j, b => at_mk p n (j + 1) (if 0 < hu_n p j then b ||| (Int32.ofInt 1 <<< (Int32.ofNat j &&& 31)) else b)
/-- the same, taken from a set -/
def at_rc (p : Int32) : Nat → Nat → Int32 → Int32
  | 0, _, s => s
  | n + 1, j, s => at_rc p n (j + 1) (if hu_n p j = 0 then s &&& ((Int32.ofInt 1 <<< (Int32.ofNat j &&& 31)) ^^^ Int32.ofInt (-1)) else s)
theorem at_rcl {p : Int32} : ∀ (n j : Nat) (s t : Int32), at_rc p n j (s &&& t) = s &&& at_rc p n j t
  | 0, _, _, _ => rfl
  | n + 1, j, s, t => by
    show at_rc p n (j + 1) (if hu_n p j = 0 then (s &&& t) &&& ((Int32.ofInt 1 <<< (Int32.ofNat j &&& 31)) ^^^ Int32.ofInt (-1)) else s &&& t) = s &&& at_rc p n (j + 1) (if hu_n p j = 0 then t &&& ((Int32.ofInt 1 <<< (Int32.ofNat j &&& 31)) ^^^ Int32.ofInt (-1)) else t)
    by_cases h : hu_n p j = 0
    · rw [if_pos h, if_pos h, Int32.and_assoc]
      exact at_rcl n (j + 1) s _
    · rw [if_neg h, if_neg h]
      exact at_rcl n (j + 1) s t
abbrev at_S : Type := Nat × (Nat → Int32) × Int32
def at_sn (F : Nat) (s : Nat → Int32) (p : Int32) : Nat → Int32 := fun i => if i < F then s i ||| (Int32.ofInt 1 <<< (hu_n p i &&& 31)) else s i
def at_st (F : Nat) (P : Int32 → Bool) (s : at_S) (p : Int32) : at_S := if P p = true then (s.1 + 1, at_sn F s.2.1 p, s.2.2 &&& at_mk p F 0 0) else s
def at_sr (P : Int32 → Bool) (s : at_S) (p : Int32) : at_S := if P p = true then (s.1 + 1, at_sn 4 s.2.1 p, at_rc p 4 0 s.2.2) else s
theorem at_st_y {F : Nat} {P : Int32 → Bool} {s : at_S} {p : Int32} (h : P p = true) : at_st F P s p = (s.1 + 1, at_sn F s.2.1 p, s.2.2 &&& at_mk p F 0 0) := if_pos h
theorem at_st_n {F : Nat} {P : Int32 → Bool} {s : at_S} {p : Int32} (h : ¬ P p = true) : at_st F P s p = s := if_neg h
theorem at_sr_y {P : Int32 → Bool} {s : at_S} {p : Int32} (h : P p = true) : at_sr P s p = (s.1 + 1, at_sn 4 s.2.1 p, at_rc p 4 0 s.2.2) := if_pos h
theorem at_sr_n {P : Int32 → Bool} {s : at_S} {p : Int32} (h : ¬ P p = true) : at_sr P s p = s := if_neg h
def at_i (F : Nat) : Int32 := (Int32.ofInt 1 <<< (Int32.ofNat F &&& 31)) - Int32.ofInt 1
def at_R (F : Nat) (a b : at_S) : Prop := a.1 = b.1 ∧ (∀ i, i < F → a.2.1 i = b.2.1 i ∧ 0 ≤ (a.2.1 i).toInt ∧ (a.2.1 i).toInt ≤ 15) ∧ ((a.1 = 0 ∧ a.2.2 = at_i F ∧ b.2.2 = Int32.ofInt 15) ∨ (a.1 ≠ 0 ∧ a.2.2 = b.2.2 ∧ a.2.2 &&& Int32.ofInt 15 = a.2.2))
def at_ok (F : Nat) (p : Int32) : Prop := at_rc p 4 0 (Int32.ofInt 15) = at_mk p F 0 0 ∧ at_i F &&& at_mk p F 0 0 = at_mk p F 0 0 ∧ at_mk p F 0 0 &&& Int32.ofInt 15 = at_mk p F 0 0
theorem at_or16 : ∀ a, a < 16 → ∀ c, c < 4 → 0 ≤ (Int32.ofNat a ||| (Int32.ofInt 1 <<< (Int32.ofNat c &&& 31))).toInt ∧ (Int32.ofNat a ||| (Int32.ofInt 1 <<< (Int32.ofNat c &&& 31))).toInt ≤ 15 := by decide +kernel
theorem at_orb {x : Int32} {p : Int32} {i : Nat} (h0 : 0 ≤ x.toInt) (h1 : x.toInt ≤ 15) : 0 ≤ (x ||| (Int32.ofInt 1 <<< (hu_n p i &&& 31))).toInt ∧ (x ||| (Int32.ofInt 1 <<< (hu_n p i &&& 31))).toInt ≤ 15 := by
  have h2 := hu_n_in p i
  have e1 : x = Int32.ofNat x.toInt.toNat := hk_of (j := x.toInt.toNat) (by omega) (by omega)
  have e2 : hu_n p i = Int32.ofNat (hu_n p i).toInt.toNat := hk_of (j := (hu_n p i).toInt.toNat) (by omega) (by omega)
  rw [e1, e2]
  exact at_or16 _ (by omega) _ (by omega)
theorem at_step {F : Nat} {P : Int32 → Bool} {a b : at_S} {p : Int32} (hF : F ≤ 4) (hp : at_ok F p) (h : at_R F a b) : at_R F (at_st F P a p) (at_sr P b p) := by
  unfold at_st at_sr
  by_cases c : P p = true
  · rw [if_pos c, if_pos c]
    obtain ⟨h1, h2, h3⟩ := h
    obtain ⟨p1, p2, p3⟩ := hp
    refine ⟨by show a.1 + 1 = b.1 + 1; rw [h1], fun i hi => ?_, .inr ⟨Nat.succ_ne_zero _, ?_, ?_⟩⟩
    · obtain ⟨g1, g2, g3⟩ := h2 i hi
      show at_sn F a.2.1 p i = at_sn 4 b.2.1 p i ∧ 0 ≤ (at_sn F a.2.1 p i).toInt ∧ (at_sn F a.2.1 p i).toInt ≤ 15
      unfold at_sn
      rw [if_pos hi, if_pos (by omega), ← g1]
      exact ⟨rfl, at_orb g2 g3⟩
    · show a.2.2 &&& at_mk p F 0 0 = at_rc p 4 0 b.2.2
      rcases h3 with ⟨_, e1, e2⟩ | ⟨_, e1, e2⟩
      · rw [e1, e2, p1, p2]
      · rw [← e1, ← p1, ← at_rcl, e2]
    · show (a.2.2 &&& at_mk p F 0 0) &&& Int32.ofInt 15 = a.2.2 &&& at_mk p F 0 0
      rw [Int32.and_assoc, p3]
  · rw [if_neg c, if_neg c]
    exact h
theorem at_fold {F : Nat} {P : Int32 → Bool} (hF : F ≤ 4) : ∀ (l : List Int32) (a b : at_S), (∀ p, p ∈ l → at_ok F p) → at_R F a b → at_R F (l.foldl (at_st F P) a) (l.foldl (at_sr P) b)
  | [], _, _, _, h => h
  | p :: l, a, b, hl, h => at_fold hF l _ _ (fun q hq => hl q (List.mem_cons_of_mem _ hq)) (at_step hF (hl p List.mem_cons_self) h)
theorem at_cnt {F : Nat} {P : Int32 → Bool} : ∀ (l : List Int32) (a : at_S), (l.foldl (at_st F P) a).1 ≤ a.1 + l.length
  | [], _ => Nat.le_refl _
  | p :: l, a => by
    have h := at_cnt (F := F) (P := P) l (at_st F P a p)
    have h2 : (at_st F P a p).1 ≤ a.1 + 1 := by
      unfold at_st
      split
      · exact Nat.le_refl _
      · exact Nat.le_succ _
    show (l.foldl (at_st F P) (at_st F P a p)).1 ≤ a.1 + (l.length + 1)
    omega
theorem at_fext {F : Nat} {P P' : Int32 → Bool} : ∀ (l : List Int32) (a : at_S), (∀ p, p ∈ l → P p = P' p) → l.foldl (at_st F P) a = l.foldl (at_st F P') a
  | [], _, _ => rfl
  | p :: l, a, h => by
    have e : at_st F P a p = at_st F P' a p := by
      unfold at_st
      rw [h p List.mem_cons_self]
    show l.foldl (at_st F P) (at_st F P a p) = l.foldl (at_st F P') (at_st F P' a p)
    rw [e]
    exact at_fext l _ (fun q hq => h q (List.mem_cons_of_mem _ hq))
/-- isPlate, for F foods -/
def at_pt (F : Nat) (p : Int32) : Bool := hpl p (4 - F) F (!(decide (Int32.ofInt 3 < hp p)))
/-- the plates of F foods, as each side goes through them -/
noncomputable def at_L (F : Nat) : List Int32 := (List.range (cm_pr ia_arH (Int32.ofNat F)).toInt.toNat).map (fun k => cm_pr ia_arA (Int32.ofNat k))
def at_M (F : Nat) : List Int32 := ((List.range 256).map (fun k => Int32.ofNat k)).filter (at_pt F)
theorem at_LM0 : at_L 0 = at_M 0 := by decide +kernel
theorem at_LM1 : at_L 1 = at_M 1 := by decide +kernel
theorem at_LM2 : at_L 2 = at_M 2 := by decide +kernel
theorem at_LM3 : at_L 3 = at_M 3 := by decide +kernel
theorem at_LM4 : at_L 4 = at_M 4 := by decide +kernel
theorem at_LM {F : Nat} (h : F ≤ 4) : at_L F = at_M F := by
  rcases (show F = 0 ∨ F = 1 ∨ F = 2 ∨ F = 3 ∨ F = 4 by omega) with rfl | rfl | rfl | rfl | rfl
  · exact at_LM0
  · exact at_LM1
  · exact at_LM2
  · exact at_LM3
  · exact at_LM4
theorem at_ok0 : (at_M 0).all (fun p => decide (at_rc p 4 0 (Int32.ofInt 15) = at_mk p 0 0 0) && (decide (at_i 0 &&& at_mk p 0 0 0 = at_mk p 0 0 0) && decide (at_mk p 0 0 0 &&& Int32.ofInt 15 = at_mk p 0 0 0))) = true := by decide +kernel
theorem at_ok1 : (at_M 1).all (fun p => decide (at_rc p 4 0 (Int32.ofInt 15) = at_mk p 1 0 0) && (decide (at_i 1 &&& at_mk p 1 0 0 = at_mk p 1 0 0) && decide (at_mk p 1 0 0 &&& Int32.ofInt 15 = at_mk p 1 0 0))) = true := by decide +kernel
theorem at_ok2 : (at_M 2).all (fun p => decide (at_rc p 4 0 (Int32.ofInt 15) = at_mk p 2 0 0) && (decide (at_i 2 &&& at_mk p 2 0 0 = at_mk p 2 0 0) && decide (at_mk p 2 0 0 &&& Int32.ofInt 15 = at_mk p 2 0 0))) = true := by decide +kernel
theorem at_ok3 : (at_M 3).all (fun p => decide (at_rc p 4 0 (Int32.ofInt 15) = at_mk p 3 0 0) && (decide (at_i 3 &&& at_mk p 3 0 0 = at_mk p 3 0 0) && decide (at_mk p 3 0 0 &&& Int32.ofInt 15 = at_mk p 3 0 0))) = true := by decide +kernel
theorem at_ok4 : (at_M 4).all (fun p => decide (at_rc p 4 0 (Int32.ofInt 15) = at_mk p 4 0 0) && (decide (at_i 4 &&& at_mk p 4 0 0 = at_mk p 4 0 0) && decide (at_mk p 4 0 0 &&& Int32.ofInt 15 = at_mk p 4 0 0))) = true := by decide +kernel
theorem at_okB {F : Nat} {p : Int32} (h : (decide (at_rc p 4 0 (Int32.ofInt 15) = at_mk p F 0 0) && (decide (at_i F &&& at_mk p F 0 0 = at_mk p F 0 0) && decide (at_mk p F 0 0 &&& Int32.ofInt 15 = at_mk p F 0 0))) = true) : at_ok F p := by
  rw [Bool.and_eq_true, Bool.and_eq_true] at h
  exact ⟨of_decide_eq_true h.1, of_decide_eq_true h.2.1, of_decide_eq_true h.2.2⟩
theorem at_okM {F : Nat} (hF : F ≤ 4) {p : Int32} (h : p ∈ at_M F) : at_ok F p := by
  rcases (show F = 0 ∨ F = 1 ∨ F = 2 ∨ F = 3 ∨ F = 4 by omega) with rfl | rfl | rfl | rfl | rfl
  · exact at_okB (List.all_eq_true.mp at_ok0 p h)
  · exact at_okB (List.all_eq_true.mp at_ok1 p h)
  · exact at_okB (List.all_eq_true.mp at_ok2 p h)
  · exact at_okB (List.all_eq_true.mp at_ok3 p h)
  · exact at_okB (List.all_eq_true.mp at_ok4 p h)
/-- no portions beyond the foods -/
theorem at_hpl {p : Int32} : ∀ (n j : Nat) (b : Bool), hpl p n j b = true → ∀ i, j ≤ i → i < j + n → hu_n p i = 0
  | 0, _, _, _ => fun i h1 h2 => absurd h2 (by omega)
  | n + 1, j, b, h => by
    intro i h1 h2
    have hb : ∀ (n j : Nat) (b : Bool), hpl p n j b = true → b = true := by
      intro n
      induction n with
      | zero => exact fun _ _ h => h
      | succ n ih =>
        intro j b h
        have := ih (j + 1) _ h
        rw [Bool.and_eq_true] at this
        exact this.1
    by_cases e : i = j
    · have := hb n (j + 1) _ h
      rw [Bool.and_eq_true] at this
      rw [e]
      exact of_decide_eq_true this.2
    · exact at_hpl n (j + 1) _ h i (by omega) (by omega)
/-- who has most unlike numbers -/
noncomputable def at_bc0 (v : Int32) : Int32 := v - ((v.toUInt32 >>> ((Int32.ofInt 1).toUInt32 &&& Int32.toUInt32 31)).toInt32 &&& ia_D 3579139413)
noncomputable def at_bc1 (v : Int32) : Int32 := (v &&& ia_D 3006477107) + ((v.toUInt32 >>> ((Int32.ofInt 2).toUInt32 &&& Int32.toUInt32 31)).toInt32 &&& ia_D 3006477107)
noncomputable def at_bc2 (v : Int32) : Int32 := (v + (v.toUInt32 >>> ((Int32.ofInt 4).toUInt32 &&& Int32.toUInt32 31)).toInt32) &&& ia_D 2400128783
noncomputable def at_bc3 (v : Int32) : Int32 := v + (v.toUInt32 >>> (((Int8.ofInt 8).toInt32).toUInt32 &&& Int32.toUInt32 31)).toInt32
noncomputable def at_bc4 (v : Int32) : Int32 := v + (v.toUInt32 >>> (((Int8.ofInt 16).toInt32).toUInt32 &&& Int32.toUInt32 31)).toInt32
noncomputable def at_bc (v : Int32) : Int32 := at_bc4 (at_bc3 (at_bc2 (at_bc1 (at_bc0 v)))) &&& (Int8.ofInt 63).toInt32
def at_bt : Nat → Int32 → Int32 → Int32
  | 0, _, n => n
  | f + 1, v, n => if v = 0 then n else at_bt f (v &&& (v - Int32.ofInt 1)) (n + Int32.ofInt 1)
/-- it comes to nothing in so many steps -/
def at_bz : Nat → Int32 → Bool
  | 0, v => decide (v = 0)
  | f + 1, v => decide (v = 0) || at_bz f (v &&& (v - Int32.ofInt 1))
theorem at_b16 : ∀ a, a < 16 → at_bt 5 (Int32.ofNat a) (Int32.ofInt 0) = at_bc (Int32.ofNat a) ∧ at_bz 5 (Int32.ofNat a) = true := by decide +kernel
noncomputable def at_mu (s : Nat → Int32) : Nat → Nat → Int32 → Int32 → Int32
  | 0, _, best, _ => best
  | n + 1, j, best, most => if most < at_bc (s j) then at_mu s n (j + 1) (Int32.ofNat j) (at_bc (s j)) else at_mu s n (j + 1) best most
theorem at_mue {s s' : Nat → Int32} : ∀ (n j : Nat) (b m : Int32), (∀ i, j ≤ i → i < j + n → s i = s' i) → at_mu s n j b m = at_mu s' n j b m
  | 0, _, _, _, _ => rfl
  | n + 1, j, b, m, h => by
    show (if m < at_bc (s j) then at_mu s n (j + 1) (Int32.ofNat j) (at_bc (s j)) else at_mu s n (j + 1) b m) = (if m < at_bc (s' j) then at_mu s' n (j + 1) (Int32.ofNat j) (at_bc (s' j)) else at_mu s' n (j + 1) b m)
    rw [h j (Nat.le_refl j) (by omega), at_mue n (j + 1) _ _ (fun i h1 h2 => h i (by omega) (by omega)), at_mue n (j + 1) b m (fun i h1 h2 => h i (by omega) (by omega))]

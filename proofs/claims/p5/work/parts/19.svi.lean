/-! ## bounds of ints: what an instruction does to them -/
abbrev sv_P : Type := Nat × Nat
def sv_in (a : sv_P) (x : Int32) : Prop := a.1 ≤ ia_E x ∧ ia_E x ≤ a.2
noncomputable def sv_top : sv_P := (0, 4294967295)
theorem sv_in_top (x : Int32) : sv_in sv_top x := ⟨Nat.zero_le _, Nat.le_of_lt_succ (ia_E_lt x)⟩
def sv_ok (f : sv_P → sv_P → sv_P) (op : Int32 → Int32 → Int32) : Prop := ∀ (a b : sv_P) (x y : Int32), sv_in a x → sv_in b y → sv_in (f a b) (op x y)
noncomputable def sv_pos (a : sv_P) : Bool := Nat.ble 2147483648 a.1
noncomputable def sv_ex (op : Int32 → Int32 → Int32) (f : sv_P → sv_P → sv_P) (a b : sv_P) : sv_P := cond (Nat.beq a.1 a.2 && Nat.beq b.1 b.2) (ia_frc (ia_op op a.1 b.1) (fun r => (r, r))) (f a b)
theorem sv_ex_ok {op : Int32 → Int32 → Int32} {f : sv_P → sv_P → sv_P} (h : sv_ok f op) : sv_ok (sv_ex op f) op := by
  intro a b x y hx hy
  unfold sv_ex
  cases hc : (Nat.beq a.1 a.2 && Nat.beq b.1 b.2) with
  | false => exact h a b x y hx hy
  | true =>
    rw [Bool.and_eq_true] at hc
    have e1 := ia_one (ia_beq hc.1) hx.1 hx.2
    have e2 := ia_one (ia_beq hc.2) hy.1 hy.2
    rw [cond_true, ia_frc_eq, ← e1, ← e2, cm_opk]
    exact ⟨Nat.le_refl _, Nat.le_refl _⟩
theorem sv_top_ok {op : Int32 → Int32 → Int32} : sv_ok (fun _ _ => sv_top) op := fun _ _ _ _ _ _ => sv_in_top _
theorem sv_cond_ok {op : Int32 → Int32 → Int32} {c : sv_P → sv_P → Bool} {f g : sv_P → sv_P → sv_P} (hf : ∀ (a b : sv_P) (x y : Int32), c a b = true → sv_in a x → sv_in b y → sv_in (f a b) (op x y)) (hg : sv_ok g op) : sv_ok (fun a b => cond (c a b) (f a b) (g a b)) op := by
  intro a b x y hx hy
  cases hc : c a b with
  | true => show sv_in (cond (c a b) (f a b) (g a b)) _; rw [hc]; exact hf a b x y hc hx hy
  | false => show sv_in (cond (c a b) (f a b) (g a b)) _; rw [hc]; exact hg a b x y hx hy
theorem sv_pos_ok {a : sv_P} {x : Int32} (h : sv_pos a = true) (hx : sv_in a x) : 2147483648 ≤ ia_E x ∧ x.toBitVec.toNat = ia_E x - 2147483648 ∧ x.toBitVec.toNat < 2147483648 := by
  have h1 := ia_ble h
  have h2 : x.toBitVec.toNat < 4294967296 := x.toBitVec.isLt
  have h3 : ia_E x = (x.toBitVec.toNat + 2147483648) % 4294967296 := rfl
  have h4 := hx.1
  omega
theorem sv_nn {x : Int32} (h : x.toBitVec.toNat < 2147483648) : ia_E x = x.toBitVec.toNat + 2147483648 := by
  have h3 : ia_E x = (x.toBitVec.toNat + 2147483648) % 4294967296 := rfl
  omega
noncomputable def sv_add : sv_P → sv_P → sv_P := fun a b => cond (Nat.ble 2147483648 (Nat.add a.1 b.1) && Nat.blt (Nat.add a.2 b.2) 6442450944) (Nat.sub (Nat.add a.1 b.1) 2147483648, Nat.sub (Nat.add a.2 b.2) 2147483648) sv_top
theorem sv_add_ok : sv_ok sv_add (fun x y => x + y) := by
  refine sv_cond_ok (c := fun a b => Nat.ble 2147483648 (Nat.add a.1 b.1) && Nat.blt (Nat.add a.2 b.2) 6442450944) (fun a b x y hc hx hy => ?_) sv_top_ok
  rw [Bool.and_eq_true] at hc
  have h1 : 2147483648 ≤ a.1 + b.1 := ia_ble hc.1
  have h2 : a.2 + b.2 < 6442450944 := ia_blt hc.2
  have h3 : ia_E (x + y) = (ia_E x + ia_E y + 2147483648) % 4294967296 := ia_Eadd x y
  obtain ⟨h4, h5⟩ := hx
  obtain ⟨h6, h7⟩ := hy
  constructor
  · show a.1 + b.1 - 2147483648 ≤ ia_E (x + y)
    omega
  · show ia_E (x + y) ≤ a.2 + b.2 - 2147483648
    omega
noncomputable def sv_sub : sv_P → sv_P → sv_P := fun a b => cond (Nat.ble b.2 (Nat.add a.1 2147483648) && Nat.blt (Nat.add a.2 2147483648) (Nat.add b.1 4294967296)) (Nat.sub (Nat.add a.1 2147483648) b.2, Nat.sub (Nat.add a.2 2147483648) b.1) sv_top
theorem sv_sub_ok : sv_ok sv_sub (fun x y => x - y) := by
  refine sv_cond_ok (c := fun a b => Nat.ble b.2 (Nat.add a.1 2147483648) && Nat.blt (Nat.add a.2 2147483648) (Nat.add b.1 4294967296)) (fun a b x y hc hx hy => ?_) sv_top_ok
  rw [Bool.and_eq_true] at hc
  have h1 : b.2 ≤ a.1 + 2147483648 := ia_ble hc.1
  have h2 : a.2 + 2147483648 < b.1 + 4294967296 := ia_blt hc.2
  have h3 : ia_E (x - y) = (ia_E x + 6442450944 - ia_E y) % 4294967296 := ia_Esub x y
  obtain ⟨h4, h5⟩ := hx
  obtain ⟨h6, h7⟩ := hy
  constructor
  · show a.1 + 2147483648 - b.2 ≤ ia_E (x - y)
    omega
  · show ia_E (x - y) ≤ a.2 + 2147483648 - b.1
    omega
noncomputable def sv_mul0 : sv_P → sv_P → sv_P := fun a b => cond (sv_pos a && (sv_pos b && Nat.blt (Nat.mul (Nat.sub a.2 2147483648) (Nat.sub b.2 2147483648)) 2147483648)) (Nat.add 2147483648 (Nat.mul (Nat.sub a.1 2147483648) (Nat.sub b.1 2147483648)), Nat.add 2147483648 (Nat.mul (Nat.sub a.2 2147483648) (Nat.sub b.2 2147483648))) sv_top
theorem sv_mul0_ok : sv_ok sv_mul0 (fun x y => x * y) := by
  refine sv_cond_ok (c := fun a b => sv_pos a && (sv_pos b && Nat.blt (Nat.mul (Nat.sub a.2 2147483648) (Nat.sub b.2 2147483648)) 2147483648)) (fun a b x y hc hx hy => ?_) sv_top_ok
  simp only [Bool.and_eq_true] at hc
  obtain ⟨h1, e1, l1⟩ := sv_pos_ok hc.1 hx
  obtain ⟨h2, e2, l2⟩ := sv_pos_ok hc.2.1 hy
  have h3 : (a.2 - 2147483648) * (b.2 - 2147483648) < 2147483648 := ia_blt hc.2.2
  have u1 : x.toBitVec.toNat ≤ a.2 - 2147483648 := by have := hx.2; omega
  have u2 : y.toBitVec.toNat ≤ b.2 - 2147483648 := by have := hy.2; omega
  have v1 : a.1 - 2147483648 ≤ x.toBitVec.toNat := Nat.le_trans (Nat.sub_le_sub_right hx.1 _) (Nat.le_of_eq e1.symm)
  have v2 : b.1 - 2147483648 ≤ y.toBitVec.toNat := Nat.le_trans (Nat.sub_le_sub_right hy.1 _) (Nat.le_of_eq e2.symm)
  have u3 := Nat.mul_le_mul u1 u2
  have v3 := Nat.mul_le_mul v1 v2
  have e3 : (x * y).toBitVec.toNat = x.toBitVec.toNat * y.toBitVec.toNat := by
    show (x.toBitVec * y.toBitVec).toNat = _
    rw [BitVec.toNat_mul]
    exact Nat.mod_eq_of_lt (by omega)
  have e4 := sv_nn (x := x * y) (by omega)
  constructor
  · show 2147483648 + (a.1 - 2147483648) * (b.1 - 2147483648) ≤ _
    omega
  · show _ ≤ 2147483648 + (a.2 - 2147483648) * (b.2 - 2147483648)
    omega
noncomputable def sv_and0 : sv_P → sv_P → sv_P := fun a b => cond (sv_pos a) (2147483648, cond (sv_pos b && Nat.ble b.2 a.2) b.2 a.2) (cond (sv_pos b) (2147483648, b.2) sv_top)
theorem sv_and_e {x y : Int32} : (x &&& y).toBitVec.toNat = x.toBitVec.toNat &&& y.toBitVec.toNat := by
  show (x.toBitVec &&& y.toBitVec).toNat = _
  rw [BitVec.toNat_and]
theorem sv_and0_ok : sv_ok sv_and0 (fun x y => x &&& y) := by
  have l1 : ∀ {a : sv_P} {x y : Int32}, sv_pos a = true → sv_in a x → 2147483648 ≤ ia_E (x &&& y) ∧ ia_E (x &&& y) ≤ a.2 := fun {a x y} h hx => by
    obtain ⟨h1, e1, l1⟩ := sv_pos_ok h hx
    have h2 := Nat.and_le_left (n := x.toBitVec.toNat) (m := y.toBitVec.toNat)
    rw [← sv_and_e] at h2
    have e4 := sv_nn (x := x &&& y) (by omega)
    have := hx.2
    omega
  have l2 : ∀ {b : sv_P} {x y : Int32}, sv_pos b = true → sv_in b y → 2147483648 ≤ ia_E (x &&& y) ∧ ia_E (x &&& y) ≤ b.2 := fun {b x y} h hy => by
    obtain ⟨h1, e1, l1⟩ := sv_pos_ok h hy
    have h2 := Nat.and_le_right (n := x.toBitVec.toNat) (m := y.toBitVec.toNat)
    rw [← sv_and_e] at h2
    have e4 := sv_nn (x := x &&& y) (by omega)
    have := hy.2
    omega
  intro a b x y hx hy
  unfold sv_and0
  cases h1 : sv_pos a with
  | true =>
    refine ⟨(l1 h1 hx).1, ?_⟩
    cases hz : (sv_pos b && Nat.ble b.2 a.2) with
    | true => rw [Bool.and_eq_true] at hz; exact (l2 hz.1 hy).2
    | false => exact (l1 h1 hx).2
  | false =>
    cases h2 : sv_pos b with
    | true =>
      rw [cond_false, cond_true]
      exact ⟨(l2 h2 hy).1, (l2 h2 hy).2⟩
    | false =>
      rw [cond_false, cond_false]
      exact sv_in_top _
noncomputable def sv_or0 : sv_P → sv_P → sv_P := fun a b => cond (sv_pos a && sv_pos b) (2147483648, 4294967295) sv_top
theorem sv_or0_ok : sv_ok sv_or0 (fun x y => x ||| y) := by
  refine sv_cond_ok (c := fun a b => sv_pos a && sv_pos b) (f := fun a b => (2147483648, 4294967295)) (fun a b x y hc hx hy => ?_) sv_top_ok
  rw [Bool.and_eq_true] at hc
  obtain ⟨h1, e1, l1⟩ := sv_pos_ok hc.1 hx
  obtain ⟨h2, e2, l2⟩ := sv_pos_ok hc.2 hy
  have h3 : (x ||| y).toBitVec.toNat = x.toBitVec.toNat ||| y.toBitVec.toNat := by
    show (x.toBitVec ||| y.toBitVec).toNat = _
    rw [BitVec.toNat_or]
  have h4 := Nat.or_lt_two_pow (n := 31) l1 l2
  have e4 := sv_nn (x := x ||| y) (by omega)
  exact ⟨by show 2147483648 ≤ _; omega, (sv_in_top _).2⟩
theorem sv_xor0_ok : sv_ok sv_or0 (fun x y => x ^^^ y) := by
  refine sv_cond_ok (c := fun a b => sv_pos a && sv_pos b) (f := fun a b => (2147483648, 4294967295)) (fun a b x y hc hx hy => ?_) sv_top_ok
  rw [Bool.and_eq_true] at hc
  obtain ⟨h1, e1, l1⟩ := sv_pos_ok hc.1 hx
  obtain ⟨h2, e2, l2⟩ := sv_pos_ok hc.2 hy
  have h3 : (x ^^^ y).toBitVec.toNat = x.toBitVec.toNat ^^^ y.toBitVec.toNat := by
    show (x.toBitVec ^^^ y.toBitVec).toNat = _
    rw [BitVec.toNat_xor]
  have h4 := Nat.xor_lt_two_pow (n := 31) l1 l2
  have e4 := sv_nn (x := x ^^^ y) (by omega)
  exact ⟨by show 2147483648 ≤ _; omega, (sv_in_top _).2⟩
noncomputable def sv_shr0 : sv_P → sv_P → sv_P := fun a b => cond (sv_pos a) (2147483648, a.2) sv_top
theorem sv_shr0_ok : sv_ok sv_shr0 (fun x y => x >>> (y &&& 31)) := by
  refine sv_cond_ok (c := fun a b => sv_pos a) (f := fun a b => (2147483648, a.2)) (fun a b x y hc hx hy => ?_) sv_top_ok
  obtain ⟨h1, e1, l1⟩ := sv_pos_ok hc hx
  have hi : x.toBitVec.toInt = x.toBitVec.toNat := by
    rw [BitVec.toInt_eq_toNat_cond]
    split <;> omega
  have h3 : ∀ n : Nat, (x.toBitVec.sshiftRight n).toNat ≤ x.toBitVec.toNat := fun n => by
    have h5 : (x.toBitVec.sshiftRight n).toInt = x.toBitVec.toInt >>> n := BitVec.toInt_sshiftRight
    have h6 : ((x.toBitVec.toNat : Int) >>> n) = ((x.toBitVec.toNat >>> n : Nat) : Int) := rfl
    have h7 : x.toBitVec.toNat >>> n ≤ x.toBitVec.toNat := Nat.shiftRight_le _ _
    have h8 : (x.toBitVec.sshiftRight n).toNat < 4294967296 := (x.toBitVec.sshiftRight n).isLt
    rw [hi, h6, BitVec.toInt_eq_toNat_cond] at h5
    generalize x.toBitVec.toNat >>> n = z at h5 h7
    split at h5 <;> omega
  have h4 : (x >>> (y &&& 31)).toBitVec.toNat ≤ x.toBitVec.toNat := h3 _
  have e4 := sv_nn (x := x >>> (y &&& 31)) (by omega)
  have := hx.2
  exact ⟨by show 2147483648 ≤ _; omega, by show _ ≤ a.2; omega⟩
noncomputable def sv_ushr0 : sv_P → sv_P → sv_P := fun a b => cond (Nat.beq b.1 b.2 && (Nat.ble 2147483649 b.1 && Nat.ble b.1 2147483679)) (2147483648, Nat.add 2147483648 (Nat.shiftRight 4294967295 (Nat.sub b.1 2147483648))) sv_top
theorem sv_ushr0_ok : sv_ok sv_ushr0 (fun x y => (x.toUInt32 >>> (y.toUInt32 &&& Int32.toUInt32 31)).toInt32) := by
  refine sv_cond_ok (c := fun a b => Nat.beq b.1 b.2 && (Nat.ble 2147483649 b.1 && Nat.ble b.1 2147483679)) (f := fun a b => (2147483648, Nat.add 2147483648 (Nat.shiftRight 4294967295 (Nat.sub b.1 2147483648)))) (fun a b x y hc hx hy => ?_) sv_top_ok
  simp only [Bool.and_eq_true] at hc
  have e1 := ia_one (ia_beq hc.1) hy.1 hy.2
  have h1 := ia_ble hc.2.1
  have h2 := ia_ble hc.2.2
  obtain ⟨-, e2, l2⟩ := sv_pos_ok (a := (ia_E y, ia_E y)) (x := y) (Nat.ble_eq.mpr (by omega)) ⟨Nat.le_refl _, Nat.le_refl _⟩
  have e3 : (y.toUInt32 &&& Int32.toUInt32 31).toNat = y.toBitVec.toNat := by
    have q1 : (y.toUInt32 &&& Int32.toUInt32 31).toNat = y.toBitVec.toNat &&& 31 := by
      show (y.toBitVec &&& 31#32).toNat = _
      rw [BitVec.toNat_and]
      rfl
    rw [q1]
    have q2 := Nat.and_two_pow_sub_one_eq_mod y.toBitVec.toNat 5
    rw [show (2 : Nat) ^ 5 - 1 = 31 from rfl] at q2
    rw [q2]
    exact Nat.mod_eq_of_lt (by omega)
  have e5 : ((x.toUInt32 >>> (y.toUInt32 &&& Int32.toUInt32 31)).toInt32).toBitVec.toNat = x.toBitVec.toNat >>> y.toBitVec.toNat := by
    show (x.toUInt32 >>> (y.toUInt32 &&& Int32.toUInt32 31)).toNat = _
    rw [UInt32.toNat_shiftRight, e3, Nat.mod_eq_of_lt (by omega)]
    rfl
  have l3 : x.toBitVec.toNat < 4294967296 := x.toBitVec.isLt
  have l4 : x.toBitVec.toNat >>> y.toBitVec.toNat ≤ 4294967295 >>> y.toBitVec.toNat := by
    rw [Nat.shiftRight_eq_div_pow, Nat.shiftRight_eq_div_pow]
    exact Nat.div_le_div_right (by omega)
  have l5 : 4294967295 >>> y.toBitVec.toNat ≤ 4294967295 >>> 1 := by
    obtain ⟨k, hk⟩ : ∃ k, y.toBitVec.toNat = 1 + k := ⟨y.toBitVec.toNat - 1, by omega⟩
    rw [hk, Nat.shiftRight_add]
    exact Nat.shiftRight_le _ _
  have l6 : (4294967295 : Nat) >>> 1 = 2147483647 := by decide
  have e6 := sv_nn (x := (x.toUInt32 >>> (y.toUInt32 &&& Int32.toUInt32 31)).toInt32) (by omega)
  constructor
  · show 2147483648 ≤ _
    omega
  · show _ ≤ 2147483648 + 4294967295 >>> (b.1 - 2147483648)
    rw [e6, e5, ← e1, ← e2]
    omega
/-- the quotient and the rest by a positive number -/
noncomputable def sv_div0 : sv_P → sv_P → sv_P := fun a b => cond (sv_pos a && Nat.ble 2147483649 b.1) (Nat.add 2147483648 (Nat.div (Nat.sub a.1 2147483648) (Nat.sub b.2 2147483648)), Nat.add 2147483648 (Nat.div (Nat.sub a.2 2147483648) (Nat.sub b.1 2147483648))) sv_top
theorem sv_div_e {x y : Int32} (h1 : 2147483648 ≤ ia_E x) (h2 : 2147483649 ≤ ia_E y) : ia_E (x / y) = 2147483648 + (ia_E x - 2147483648) / (ia_E y - 2147483648) := by
  have hne : y ≠ -1 := fun h => by
    rw [h] at h2
    exact absurd h2 (by decide)
  have h3 := Int32.toInt_div_of_ne_right x y hne
  have e1 : x.toInt = ((ia_E x - 2147483648 : Nat) : Int) := by rw [ia_toInt]; omega
  have e2 : y.toInt = ((ia_E y - 2147483648 : Nat) : Int) := by rw [ia_toInt]; omega
  rw [ia_toInt, e1, e2, ← Int.ofNat_tdiv] at h3
  omega
theorem sv_div0_ok : sv_ok sv_div0 (fun x y => x / y) := by
  refine sv_cond_ok (c := fun a b => sv_pos a && Nat.ble 2147483649 b.1) (f := fun a b => (Nat.add 2147483648 (Nat.div (Nat.sub a.1 2147483648) (Nat.sub b.2 2147483648)), Nat.add 2147483648 (Nat.div (Nat.sub a.2 2147483648) (Nat.sub b.1 2147483648)))) (fun a b x y hc hx hy => ?_) sv_top_ok
  rw [Bool.and_eq_true] at hc
  have h1 := ia_ble hc.1
  have h2 := ia_ble hc.2
  obtain ⟨x1, x2⟩ := hx
  obtain ⟨y1, y2⟩ := hy
  have e := sv_div_e (x := x) (y := y) (by omega) (by omega)
  have m1 : (a.1 - 2147483648) / (b.2 - 2147483648) ≤ (ia_E x - 2147483648) / (ia_E y - 2147483648) := Nat.div_le_div (by omega) (by omega) (by omega)
  have m2 : (ia_E x - 2147483648) / (ia_E y - 2147483648) ≤ (a.2 - 2147483648) / (b.1 - 2147483648) := Nat.div_le_div (by omega) (by omega) (by omega)
  refine ⟨?_, ?_⟩
  · exact Nat.le_trans (Nat.add_le_add_left m1 2147483648) (Nat.le_of_eq e.symm)
  · exact Nat.le_trans (Nat.le_of_eq e) (Nat.add_le_add_left m2 2147483648)
noncomputable def sv_rem0 : sv_P → sv_P → sv_P := fun a b => cond (sv_pos a && Nat.ble 2147483649 b.1) (2147483648, cond (Nat.blt a.2 b.2) a.2 (Nat.sub b.2 1)) sv_top
theorem sv_rem0_ok : sv_ok sv_rem0 (fun x y => x - x / y * y) := by
  refine sv_cond_ok (c := fun a b => sv_pos a && Nat.ble 2147483649 b.1) (f := fun a b => (2147483648, cond (Nat.blt a.2 b.2) a.2 (Nat.sub b.2 1))) (fun a b x y hc hx hy => ?_) sv_top_ok
  rw [Bool.and_eq_true] at hc
  obtain ⟨h1, e1, l1⟩ := sv_pos_ok hc.1 hx
  have h2 := ia_ble hc.2
  obtain ⟨-, e2, l2⟩ := sv_pos_ok (a := b) (x := y) (Nat.ble_eq.mpr (by omega)) hy
  have y1 := hy.1
  have y2 := hy.2
  have x2 := hx.2
  have e := sv_div_e (x := x) (y := y) (by omega) (by omega)
  rw [← e1, ← e2] at e
  have d1 : x.toBitVec.toNat / y.toBitVec.toNat ≤ x.toBitVec.toNat := Nat.div_le_self _ _
  have e3 : (x / y).toBitVec.toNat = x.toBitVec.toNat / y.toBitVec.toNat := by
    have q2 : (x / y).toBitVec.toNat < 4294967296 := (x / y).toBitVec.isLt
    have q3 : ia_E (x / y) = ((x / y).toBitVec.toNat + 2147483648) % 4294967296 := rfl
    generalize x.toBitVec.toNat / y.toBitVec.toNat = z at e d1 ⊢
    omega
  have d2 : x.toBitVec.toNat / y.toBitVec.toNat * y.toBitVec.toNat ≤ x.toBitVec.toNat := Nat.div_mul_le_self _ _
  have e4 : (x / y * y).toBitVec.toNat = x.toBitVec.toNat / y.toBitVec.toNat * y.toBitVec.toNat := by
    show ((x / y).toBitVec * y.toBitVec).toNat = _
    rw [BitVec.toNat_mul, e3]
    exact Nat.mod_eq_of_lt (by omega)
  have e5 : ia_E (x / y * y) = x.toBitVec.toNat / y.toBitVec.toNat * y.toBitVec.toNat + 2147483648 := by rw [sv_nn (by omega), e4]
  have e6 : ia_E (x - x / y * y) = (ia_E x + 6442450944 - ia_E (x / y * y)) % 4294967296 := ia_Esub _ _
  have e7 := Nat.div_add_mod x.toBitVec.toNat y.toBitVec.toNat
  rw [Nat.mul_comm] at e7
  have l3 : x.toBitVec.toNat % y.toBitVec.toNat < y.toBitVec.toNat := Nat.mod_lt _ (by omega)
  have l4 : x.toBitVec.toNat % y.toBitVec.toNat ≤ x.toBitVec.toNat := Nat.mod_le _ _
  show sv_in _ (x - x / y * y)
  generalize ia_E (x / y * y) = z1 at e5 e6
  generalize x.toBitVec.toNat % y.toBitVec.toNat = z2 at e7 l3 l4
  generalize x.toBitVec.toNat / y.toBitVec.toNat * y.toBitVec.toNat = z3 at e5 e7 d2
  constructor
  · show 2147483648 ≤ _
    omega
  · show _ ≤ cond (Nat.blt a.2 b.2) a.2 (Nat.sub b.2 1)
    cases hz : Nat.blt a.2 b.2 with
    | true => show _ ≤ a.2; omega
    | false => show _ ≤ b.2 - 1; omega
noncomputable def sv_mul : sv_P → sv_P → sv_P := sv_ex (fun x y => x * y) sv_mul0
noncomputable def sv_and : sv_P → sv_P → sv_P := sv_ex (fun x y => x &&& y) sv_and0
noncomputable def sv_or : sv_P → sv_P → sv_P := sv_ex (fun x y => x ||| y) sv_or0
noncomputable def sv_xor : sv_P → sv_P → sv_P := sv_ex (fun x y => x ^^^ y) sv_or0
noncomputable def sv_shl : sv_P → sv_P → sv_P := sv_ex (fun x y => x <<< (y &&& 31)) (fun _ _ => sv_top)
noncomputable def sv_shr : sv_P → sv_P → sv_P := sv_ex (fun x y => x >>> (y &&& 31)) sv_shr0
noncomputable def sv_ushr : sv_P → sv_P → sv_P := sv_ex (fun x y => (x.toUInt32 >>> (y.toUInt32 &&& Int32.toUInt32 31)).toInt32) sv_ushr0
noncomputable def sv_div : sv_P → sv_P → sv_P := sv_ex (fun x y => x / y) sv_div0
noncomputable def sv_rem : sv_P → sv_P → sv_P := sv_ex (fun x y => x - x / y * y) sv_rem0
noncomputable def sv_min (a b : sv_P) : sv_P := (cond (Nat.ble a.1 b.1) a.1 b.1, cond (Nat.ble a.2 b.2) a.2 b.2)
noncomputable def sv_max (a b : sv_P) : sv_P := (cond (Nat.ble a.1 b.1) b.1 a.1, cond (Nat.ble a.2 b.2) b.2 a.2)
theorem sv_cle {a b : Nat} : cond (Nat.ble a b) a b ≤ a ∧ cond (Nat.ble a b) a b ≤ b ∧ (cond (Nat.ble a b) a b = a ∨ cond (Nat.ble a b) a b = b) := by
  cases h : Nat.ble a b with
  | true => exact ⟨Nat.le_refl _, ia_ble h, Or.inl rfl⟩
  | false =>
    have : ¬ a ≤ b := fun z => by rw [Nat.ble_eq.mpr z] at h; cases h
    exact ⟨by show b ≤ a; omega, Nat.le_refl _, Or.inr rfl⟩
theorem sv_cge {a b : Nat} : a ≤ cond (Nat.ble a b) b a ∧ b ≤ cond (Nat.ble a b) b a ∧ (cond (Nat.ble a b) b a = a ∨ cond (Nat.ble a b) b a = b) := by
  cases h : Nat.ble a b with
  | true => exact ⟨ia_ble h, Nat.le_refl _, Or.inr rfl⟩
  | false =>
    have : ¬ a ≤ b := fun z => by rw [Nat.ble_eq.mpr z] at h; cases h
    exact ⟨Nat.le_refl _, by show b ≤ a; omega, Or.inl rfl⟩
theorem sv_min_ok : sv_ok sv_min (fun x y => if y < x then y else x) := by
  intro a b x y hx hy
  obtain ⟨p1, p2, p3⟩ := sv_cle (a := a.1) (b := b.1)
  obtain ⟨q1, q2, q3⟩ := sv_cle (a := a.2) (b := b.2)
  obtain ⟨x1, x2⟩ := hx
  obtain ⟨y1, y2⟩ := hy
  show sv_in (sv_min a b) (if y < x then y else x)
  by_cases h : y < x
  · rw [if_pos h]
    rw [ia_lt] at h
    exact ⟨by show cond _ _ _ ≤ _; omega, by show _ ≤ cond _ _ _; omega⟩
  · rw [if_neg h]
    rw [ia_lt] at h
    exact ⟨by show cond _ _ _ ≤ _; omega, by show _ ≤ cond _ _ _; omega⟩
theorem sv_max_ok : sv_ok sv_max (fun x y => if x < y then y else x) := by
  intro a b x y hx hy
  obtain ⟨p1, p2, p3⟩ := sv_cge (a := a.1) (b := b.1)
  obtain ⟨q1, q2, q3⟩ := sv_cge (a := a.2) (b := b.2)
  obtain ⟨x1, x2⟩ := hx
  obtain ⟨y1, y2⟩ := hy
  show sv_in (sv_max a b) (if x < y then y else x)
  by_cases h : x < y
  · rw [if_pos h]
    rw [ia_lt] at h
    exact ⟨by show cond _ _ _ ≤ _; omega, by show _ ≤ cond _ _ _; omega⟩
  · rw [if_neg h]
    rw [ia_lt] at h
    exact ⟨by show cond _ _ _ ≤ _; omega, by show _ ≤ cond _ _ _; omega⟩
/-- what a compare that came out so says of its two numbers; none: it can't -/
noncomputable def sv_ne1 (a b : sv_P) : sv_P := cond (Nat.beq b.1 b.2) (cond (Nat.beq a.1 b.1) (Nat.succ a.1) a.1, cond (Nat.beq a.2 b.1) (Nat.pred a.2) a.2) a
noncomputable def sv_fin (a b : sv_P) : Option (sv_P × sv_P) := cond (Nat.ble a.1 a.2 && Nat.ble b.1 b.2) (some (a, b)) none
noncomputable def sv_rlt (a b : sv_P) : Option (sv_P × sv_P) := cond (Nat.beq b.2 0) none (sv_fin (a.1, cond (Nat.ble a.2 (Nat.pred b.2)) a.2 (Nat.pred b.2)) (cond (Nat.ble (Nat.succ a.1) b.1) b.1 (Nat.succ a.1), b.2))
noncomputable def sv_rle (a b : sv_P) : Option (sv_P × sv_P) := sv_fin (a.1, cond (Nat.ble a.2 b.2) a.2 b.2) (cond (Nat.ble a.1 b.1) b.1 a.1, b.2)
noncomputable def sv_swp (o : Option (sv_P × sv_P)) : Option (sv_P × sv_P) := match o with
  | some q => some (q.2, q.1)
  | none => none
noncomputable def sv_req (a b : sv_P) : Option (sv_P × sv_P) := sv_fin (cond (Nat.ble a.1 b.1) b.1 a.1, cond (Nat.ble a.2 b.2) a.2 b.2) (cond (Nat.ble a.1 b.1) b.1 a.1, cond (Nat.ble a.2 b.2) a.2 b.2)
noncomputable def sv_rne (a b : sv_P) : Option (sv_P × sv_P) := sv_fin (sv_ne1 a b) (sv_ne1 b a)
/-- the compare came out r -/
noncomputable def sv_ref (c : ClassFile.Cond) (r : Bool) (a b : sv_P) : Option (sv_P × sv_P) := match c, r with
  | .eq, true => sv_req a b
  | .eq, false => sv_rne a b
  | .ne, true => sv_rne a b
  | .ne, false => sv_req a b
  | .lt, true => sv_rlt a b
  | .lt, false => sv_swp (sv_rle b a)
  | .ge, true => sv_swp (sv_rle b a)
  | .ge, false => sv_rlt a b
  | .gt, true => sv_swp (sv_rlt b a)
  | .gt, false => sv_rle a b
  | .le, true => sv_rle a b
  | .le, false => sv_swp (sv_rlt b a)
def sv_rok (o : Option (sv_P × sv_P)) (x y : Int32) : Prop := ∃ q, o = some q ∧ sv_in q.1 x ∧ sv_in q.2 y
theorem sv_fin_ok {a b : sv_P} {x y : Int32} (hx : sv_in a x) (hy : sv_in b y) : sv_rok (sv_fin a b) x y := by
  have h1 : Nat.ble a.1 a.2 = true := Nat.ble_eq.mpr (Nat.le_trans hx.1 hx.2)
  have h2 : Nat.ble b.1 b.2 = true := Nat.ble_eq.mpr (Nat.le_trans hy.1 hy.2)
  exact ⟨(a, b), by unfold sv_fin; rw [h1, h2]; rfl, hx, hy⟩
theorem sv_swp_ok {o : Option (sv_P × sv_P)} {x y : Int32} (h : sv_rok o y x) : sv_rok (sv_swp o) x y := by
  obtain ⟨q, rfl, h1, h2⟩ := h
  exact ⟨(q.2, q.1), rfl, h2, h1⟩
theorem sv_rlt_ok {a b : sv_P} {x y : Int32} (hx : sv_in a x) (hy : sv_in b y) (h : ia_E x < ia_E y) : sv_rok (sv_rlt a b) x y := by
  obtain ⟨x1, x2⟩ := hx
  obtain ⟨y1, y2⟩ := hy
  have hb : Nat.beq b.2 0 = false := by
    cases hz : Nat.beq b.2 0 with
    | false => rfl
    | true => have := ia_beq hz; omega
  unfold sv_rlt
  rw [hb]
  obtain ⟨p1, p2, p3⟩ := sv_cle (a := a.2) (b := Nat.pred b.2)
  obtain ⟨q1, q2, q3⟩ := sv_cge (a := Nat.succ a.1) (b := b.1)
  have e1 : Nat.pred b.2 = b.2 - 1 := rfl
  have e2 : Nat.succ a.1 = a.1 + 1 := rfl
  refine sv_fin_ok ⟨x1, ?_⟩ ⟨?_, y2⟩
  · show _ ≤ cond _ _ _
    omega
  · show cond _ _ _ ≤ _
    omega
theorem sv_rle_ok {a b : sv_P} {x y : Int32} (hx : sv_in a x) (hy : sv_in b y) (h : ia_E x ≤ ia_E y) : sv_rok (sv_rle a b) x y := by
  obtain ⟨x1, x2⟩ := hx
  obtain ⟨y1, y2⟩ := hy
  obtain ⟨p1, p2, p3⟩ := sv_cle (a := a.2) (b := b.2)
  obtain ⟨q1, q2, q3⟩ := sv_cge (a := a.1) (b := b.1)
  refine sv_fin_ok ⟨x1, ?_⟩ ⟨?_, y2⟩
  · show _ ≤ cond _ _ _
    omega
  · show cond _ _ _ ≤ _
    omega
theorem sv_req_ok {a b : sv_P} {x y : Int32} (hx : sv_in a x) (hy : sv_in b y) (h : x = y) : sv_rok (sv_req a b) x y := by
  subst h
  obtain ⟨x1, x2⟩ := hx
  obtain ⟨y1, y2⟩ := hy
  obtain ⟨p1, p2, p3⟩ := sv_cle (a := a.2) (b := b.2)
  obtain ⟨q1, q2, q3⟩ := sv_cge (a := a.1) (b := b.1)
  have hh : sv_in (cond (Nat.ble a.1 b.1) b.1 a.1, cond (Nat.ble a.2 b.2) a.2 b.2) x := ⟨by show cond _ _ _ ≤ _; omega, by show _ ≤ cond _ _ _; omega⟩
  exact sv_fin_ok hh hh
theorem sv_ne1_ok {a b : sv_P} {x y : Int32} (hx : sv_in a x) (hy : sv_in b y) (h : x ≠ y) : sv_in (sv_ne1 a b) x := by
  unfold sv_ne1
  cases hb : Nat.beq b.1 b.2 with
  | false => exact hx
  | true =>
    have e := ia_one (ia_beq hb) hy.1 hy.2
    have hne : ia_E x ≠ ia_E y := fun z => h (ia_E_inj z)
    obtain ⟨x1, x2⟩ := hx
    constructor
    · show cond (Nat.beq a.1 b.1) (Nat.succ a.1) a.1 ≤ _
      cases h1 : Nat.beq a.1 b.1 with
      | false => exact x1
      | true => have := ia_beq h1; show a.1 + 1 ≤ _; omega
    · show _ ≤ cond (Nat.beq a.2 b.1) (Nat.pred a.2) a.2
      cases h1 : Nat.beq a.2 b.1 with
      | false => exact x2
      | true => have := ia_beq h1; show _ ≤ a.2 - 1; omega
theorem sv_rne_ok {a b : sv_P} {x y : Int32} (hx : sv_in a x) (hy : sv_in b y) (h : x ≠ y) : sv_rok (sv_rne a b) x y := sv_fin_ok (sv_ne1_ok hx hy h) (sv_ne1_ok hy hx (fun z => h z.symm))
theorem sv_ref_ok {c : ClassFile.Cond} {a b : sv_P} {x y : Int32} (hx : sv_in a x) (hy : sv_in b y) : sv_rok (sv_ref c (cm_cmp c x y) a b) x y := by
  have dn : ∀ {p : Prop} (d : Decidable p), (!(@decide p d)) = true → ¬ p := fun d h z => by
    rw [decide_eq_true z] at h
    cases h
  cases c <;> unfold cm_cmp
  · cases hz : decide (x = y) with
    | true => exact sv_req_ok hx hy (of_decide_eq_true hz)
    | false => exact sv_rne_ok hx hy (of_decide_eq_false hz)
  · cases hz : decide (x = y) with
    | true => exact sv_req_ok hx hy (of_decide_eq_true hz)
    | false => exact sv_rne_ok hx hy (of_decide_eq_false hz)
  · cases hz : decide (x < y) with
    | true => exact sv_rlt_ok hx hy (ia_lt.mp (of_decide_eq_true hz))
    | false => exact sv_swp_ok (sv_rle_ok hy hx (Nat.not_lt.mp (fun z => of_decide_eq_false hz (ia_lt.mpr z))))
  · cases hz : decide (x < y) with
    | true => exact sv_rlt_ok hx hy (ia_lt.mp (of_decide_eq_true hz))
    | false => exact sv_swp_ok (sv_rle_ok hy hx (Nat.not_lt.mp (fun z => of_decide_eq_false hz (ia_lt.mpr z))))
  · cases hz : decide (y < x) with
    | true => exact sv_swp_ok (sv_rlt_ok hy hx (ia_lt.mp (of_decide_eq_true hz)))
    | false => exact sv_rle_ok hx hy (Nat.not_lt.mp (fun z => of_decide_eq_false hz (ia_lt.mpr z)))
  · cases hz : decide (y < x) with
    | true => exact sv_swp_ok (sv_rlt_ok hy hx (ia_lt.mp (of_decide_eq_true hz)))
    | false => exact sv_rle_ok hx hy (Nat.not_lt.mp (fun z => of_decide_eq_false hz (ia_lt.mpr z)))

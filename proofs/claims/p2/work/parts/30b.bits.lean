/-! ## by hand: bits(I)I -/
theorem hs_d {y : Nat} {cc : ByteArray} (hcc : ia_code y = cc) {pc len : Nat} {ins : Instr} (h : decode cc pc = .ok (ins, len)) : decode (ia_code y) pc = .ok (ins, len) := by rw [hcc]; exact h
theorem hs_land (x : Int32) (h : x ≠ 0) : (x &&& (x - 1)).toBitVec.toNat < x.toBitVec.toNat := by
  have h0 : x.toBitVec.toNat ≠ 0 := fun z => h (by
    apply Int32.toBitVec_inj.mp
    apply BitVec.eq_of_toNat_eq
    rw [z]
    rfl)
  have h1 : (x &&& (x - 1)).toBitVec.toNat = x.toBitVec.toNat &&& (x - 1).toBitVec.toNat := sv_and_e
  have h2 : (x - 1).toBitVec.toNat = x.toBitVec.toNat - 1 := by
    have hl : x.toBitVec.toNat < 4294967296 := x.toBitVec.isLt
    show (x.toBitVec - 1#32).toNat = _
    rw [BitVec.toNat_sub]
    show (4294967296 - 1 + x.toBitVec.toNat) % 4294967296 = _
    omega
  have h3 := Nat.and_le_right (n := x.toBitVec.toNat) (m := (x - 1).toBitVec.toNat)
  omega
set_option maxRecDepth 100000 in
theorem hs_bits_ok : sv_valid sg hs_bits := by
  intro as w hargs hfs hG
  obtain ⟨c, t, rfl, h1, h2⟩ := sv_cons hargs
  have := sv_nil h2
  subst this
  match c, h1 with
  | .inl x, _ =>
    have loop : ∀ (m : Nat) (n v : Int32), v.toBitVec.toNat < m → cm_X (cm_C 0) 0 4 [some (.inl x), some (.inl n), some (.inl v)] [] w (sv_Q sg hs_bits [.inl x] w) := by
      sorry
    sorry

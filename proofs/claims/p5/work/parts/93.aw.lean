/-! ## more rows for walks by hand: numbers as ints, booleans, shifts (wip/p2/93.aw.lean.txt) -/
section AW
variable {C : Nat → List cm_V → cm_W → cm_O → Prop} {y pc : Nat} {lv : cm_L} {st : List cm_V} {w : cm_W} {Q : cm_O → Prop}
theorem aw_add {x z : Int32} {a b : Int} (hx : x.toInt = a) (hz : z.toInt = b) (h1 : -2147483648 ≤ a + b) (h2 : a + b < 2147483648) : (x + z).toInt = a + b := by
  rw [Int32.toInt_add, hx, hz]
  exact Int.bmod_eq_of_le (by omega) (by omega)
theorem aw_sub {x z : Int32} {a b : Int} (hx : x.toInt = a) (hz : z.toInt = b) (h1 : -2147483648 ≤ a - b) (h2 : a - b < 2147483648) : (x - z).toInt = a - b := by
  rw [Int32.toInt_sub, hx, hz]
  exact Int.bmod_eq_of_le (by omega) (by omega)
theorem aw_mul {x z : Int32} {a b : Int} (hx : x.toInt = a) (hz : z.toInt = b) (h1 : -2147483648 ≤ a * b) (h2 : a * b < 2147483648) : (x * z).toInt = a * b := by
  rw [Int32.toInt_mul, hx, hz]
  exact Int.bmod_eq_of_le (by omega) (by omega)
theorem aw_iadd {x z : Int32} {a b e : Int} (hd : decode (ia_code y) pc = .ok (.iadd, 1)) (hx : x.toInt = a) (hz : z.toInt = b) (he : a + b = e) (h1 : -2147483648 ≤ e) (h2 : e < 2147483648) (k : ∀ v : Int32, v.toInt = e → cm_X C y (pc + 1) lv (.inl v :: st) w Q) : cm_X C y pc lv (.inl z :: .inl x :: st) w Q := wk_iadd hd (k _ ((aw_add hx hz (by omega) (by omega)).trans he))
theorem aw_isub {x z : Int32} {a b e : Int} (hd : decode (ia_code y) pc = .ok (.isub, 1)) (hx : x.toInt = a) (hz : z.toInt = b) (he : a - b = e) (h1 : -2147483648 ≤ e) (h2 : e < 2147483648) (k : ∀ v : Int32, v.toInt = e → cm_X C y (pc + 1) lv (.inl v :: st) w Q) : cm_X C y pc lv (.inl z :: .inl x :: st) w Q := wk_isub hd (k _ ((aw_sub hx hz (by omega) (by omega)).trans he))
theorem aw_imul {x z : Int32} {a b e : Int} (hd : decode (ia_code y) pc = .ok (.imul, 1)) (hx : x.toInt = a) (hz : z.toInt = b) (he : a * b = e) (h1 : -2147483648 ≤ e) (h2 : e < 2147483648) (k : ∀ v : Int32, v.toInt = e → cm_X C y (pc + 1) lv (.inl v :: st) w Q) : cm_X C y pc lv (.inl z :: .inl x :: st) w Q := wk_imul hd (k _ ((aw_mul hx hz (by omega) (by omega)).trans he))
theorem aw_iinc {i : Nat} {d : Int} {x : Int32} {a b e : Int} (hd : decode (ia_code y) pc = .ok (.iinc i d, 3)) (hm : Nat.blt i (ia_maxL y) = true) (hn : ia_nl (cm_el lv) i = true) (hv : ia_at lv i = some (some (.inl x))) (hx : x.toInt = a) (hz : (Int32.ofInt d).toInt = b) (he : a + b = e) (h1 : -2147483648 ≤ e) (h2 : e < 2147483648) (k : ∀ v : Int32, v.toInt = e → cm_X C y (pc + 3) (lv.set i (some (.inl v))) st w Q) : cm_X C y pc lv st w Q := wk_iinc hd hm hn hv (k _ ((aw_add hx hz (by omega) (by omega)).trans he))
theorem aw_lt_t {x z : Int32} {a b : Int} (hx : x.toInt = a) (hz : z.toInt = b) (h : cm_cmp .lt x z = true) : a < b := by
  rw [← hx, ← hz]
  exact Int32.lt_iff_toInt_lt.mp (of_decide_eq_true h)
theorem aw_lt_f {x z : Int32} {a b : Int} (hx : x.toInt = a) (hz : z.toInt = b) (h : cm_cmp .lt x z = false) : b ≤ a := by
  rw [← hx, ← hz]
  have := of_decide_eq_false (p := x < z) h
  rw [Int32.lt_iff_toInt_lt] at this
  omega
theorem aw_ge_t {x z : Int32} {a b : Int} (hx : x.toInt = a) (hz : z.toInt = b) (h : cm_cmp .ge x z = true) : b ≤ a := aw_lt_f hx hz (by
  have h' : (!(cm_cmp .lt x z)) = true := h
  cases hh : cm_cmp .lt x z with
  | false => rfl
  | true => rw [hh] at h'; cases h')
theorem aw_ge_f {x z : Int32} {a b : Int} (hx : x.toInt = a) (hz : z.toInt = b) (h : cm_cmp .ge x z = false) : a < b := aw_lt_t hx hz (by
  have h' : (!(cm_cmp .lt x z)) = false := h
  cases hh : cm_cmp .lt x z with
  | true => rfl
  | false => rw [hh] at h'; cases h')
theorem aw_gt_t {x z : Int32} {a b : Int} (hx : x.toInt = a) (hz : z.toInt = b) (h : cm_cmp .gt x z = true) : b < a := aw_lt_t hz hx h
theorem aw_gt_f {x z : Int32} {a b : Int} (hx : x.toInt = a) (hz : z.toInt = b) (h : cm_cmp .gt x z = false) : a ≤ b := aw_lt_f hz hx h
theorem aw_le_t {x z : Int32} {a b : Int} (hx : x.toInt = a) (hz : z.toInt = b) (h : cm_cmp .le x z = true) : a ≤ b := aw_ge_t hz hx h
theorem aw_le_f {x z : Int32} {a b : Int} (hx : x.toInt = a) (hz : z.toInt = b) (h : cm_cmp .le x z = false) : b < a := aw_ge_f hz hx h
theorem aw_eq_t {x z : Int32} {a b : Int} (hx : x.toInt = a) (hz : z.toInt = b) (h : cm_cmp .eq x z = true) : a = b := by
  rw [← hx, ← hz, (wk_cmp_eq h).1 rfl]
theorem aw_eq_f {x z : Int32} {a b : Int} (hx : x.toInt = a) (hz : z.toInt = b) (h : cm_cmp .eq x z = false) : a ≠ b := fun e => (wk_cmp_eq h).2 rfl (Int32.toInt_inj.mp (hx.trans (e.trans hz.symm)))
theorem aw_ne_t {x z : Int32} {a b : Int} (hx : x.toInt = a) (hz : z.toInt = b) (h : cm_cmp .ne x z = true) : a ≠ b := aw_eq_f hx hz (by
  have h' : (!(cm_cmp .eq x z)) = true := h
  cases hh : cm_cmp .eq x z with
  | false => rfl
  | true => rw [hh] at h'; cases h')
theorem aw_ne_f {x z : Int32} {a b : Int} (hx : x.toInt = a) (hz : z.toInt = b) (h : cm_cmp .ne x z = false) : a = b := aw_eq_t hx hz (by
  have h' : (!(cm_cmp .eq x z)) = false := h
  cases hh : cm_cmp .eq x z with
  | true => rfl
  | false => rw [hh] at h'; cases h')
theorem aw_iaload {n len i : Nat} {x : Int32} {e : Int} (hg : wk_ar n 50 len = true) (hx : x.toInt = e) (he : e = (i : Int)) (hl : i < len) (hd : decode (ia_code y) pc = .ok (.iaload, 1)) (k : cm_X C y (pc + 1) lv (.inl (w.1 n i) :: st) w Q) : cm_X C y pc lv (.inl x :: .inr (.inr (some n)) :: st) w Q := by
  have e1 : x.toInt.toNat = i := by rw [hx, he]; exact Int.toNat_natCast i
  refine wk_iaload hg (by omega) (by omega) hd ?_
  rw [e1]
  exact k
theorem aw_iastore {n len i : Nat} {x z : Int32} {e : Int} (hg : wk_ar n 50 len = true) (hx : x.toInt = e) (he : e = (i : Int)) (hl : i < len) (hd : decode (ia_code y) pc = .ok (.iastore, 1)) (k : cm_X C y (pc + 1) lv st (cm_u1 w n i z) Q) : cm_X C y pc lv (.inl z :: .inl x :: .inr (.inr (some n)) :: st) w Q := by
  have e1 : x.toInt.toNat = i := by rw [hx, he]; exact Int.toNat_natCast i
  refine wk_iastore hg (by omega) (by omega) hd ?_
  rw [e1]
  exact k
theorem aw_baload {n len i : Nat} {x : Int32} {e : Int} (hg : wk_ar n 53 len = true) (hx : x.toInt = e) (he : e = (i : Int)) (hl : i < len) (hd : decode (ia_code y) pc = .ok (.baload, 1)) (hi : cm_do y pc .baload 1 lv (.inl x :: .inr (.inr (some n)) :: st) w = cm_al 53 pc lv (.inl x :: .inr (.inr (some n)) :: st) w) (k : cm_X C y (pc + 1) lv (.inl (w.1 n i) :: st) w Q) : cm_X C y pc lv (.inl x :: .inr (.inr (some n)) :: st) w Q := by
  have e1 : x.toInt.toNat = i := by rw [hx, he]; exact Int.toNat_natCast i
  refine wk_al hg (by omega) (by omega) hd hi ?_
  rw [e1]
  exact k
theorem aw_bastore {n len i : Nat} {x z : Int32} {e : Int} {g : Int32 → Int32} (hg : wk_ar n 53 len = true) (hx : x.toInt = e) (he : e = (i : Int)) (hl : i < len) (hd : decode (ia_code y) pc = .ok (.bastore, 1)) (hi : cm_do y pc .bastore 1 lv (.inl z :: .inl x :: .inr (.inr (some n)) :: st) w = cm_as 53 g pc lv (.inl z :: .inl x :: .inr (.inr (some n)) :: st) w) (k : cm_X C y (pc + 1) lv st (cm_u1 w n i (g z)) Q) : cm_X C y pc lv (.inl z :: .inl x :: .inr (.inr (some n)) :: st) w Q := by
  have e1 : x.toInt.toNat = i := by rw [hx, he]; exact Int.toNat_natCast i
  refine wk_as hg (by omega) (by omega) hd hi ?_
  rw [e1]
  exact k
theorem aw_ishl {x z : Int32} (hd : decode (ia_code y) pc = .ok (.ishl, 1)) (k : cm_X C y (pc + 1) lv (.inl (x <<< (z &&& 31)) :: st) w Q) : cm_X C y pc lv (.inl z :: .inl x :: st) w Q := cm_X_do (q := (pc + 1, lv, .inl (x <<< (z &&& 31)) :: st, w)) hd rfl k
theorem aw_ior {x z : Int32} (hd : decode (ia_code y) pc = .ok (.ior, 1)) (k : cm_X C y (pc + 1) lv (.inl (x ||| z) :: st) w Q) : cm_X C y pc lv (.inl z :: .inl x :: st) w Q := cm_X_do (q := (pc + 1, lv, .inl (x ||| z) :: st, w)) hd rfl k
theorem aw_ixor {x z : Int32} (hd : decode (ia_code y) pc = .ok (.ixor, 1)) (k : cm_X C y (pc + 1) lv (.inl (x ^^^ z) :: st) w Q) : cm_X C y pc lv (.inl z :: .inl x :: st) w Q := cm_X_do (q := (pc + 1, lv, .inl (x ^^^ z) :: st, w)) hd rfl k
/-- a number that is a bit -/
theorem aw_bit {x : Int32} (h0 : 0 ≤ x.toInt) (h1 : x.toInt ≤ 1) : ia_nar .boolean (ia_E x) = true := by
  have h : x.toInt = 0 ∨ x.toInt = 1 := by omega
  rcases h with h | h
  · have e : x = Int32.ofInt 0 := Int32.toInt_inj.mp (h.trans (by decide))
    rw [e]
    exact wk_z0
  · have e : x = Int32.ofInt 1 := Int32.toInt_inj.mp (h.trans (by decide))
    rw [e]
    exact wk_z1
end AW

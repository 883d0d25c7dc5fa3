/-! a value known by bounds (an int: between two numbers, each 2^31 too large; a long: its number; a reference: its place in the world; beside it 0 the one String, 1 its bytes, 2 any other) -/
abbrev ia_V : Type := (Nat × Nat) ⊕ (Nat ⊕ (Option Nat ⊕ Nat))
/-- a cell: its kind, its length, its contents in rows of sixteen -/
abbrev ia_C : Type := Nat × Nat × List (List ia_V)
abbrev ia_H : Type := List (List ia_C)
abbrev ia_O : Type := Option ia_V × ia_H × Nat
abbrev ia_K : Type := Nat → List (Option ia_V) → List ia_V → ia_H → Nat → Nat → Nat → Option ia_O
noncomputable def ia_E (x : Int32) : Nat := (x.toBitVec.toNat + 2147483648) % 4294967296
noncomputable def ia_D (u : Nat) : Int32 := Int32.ofNat (u + 2147483648)
noncomputable def ia_top : Nat × Nat := (0, 4294967295)
/-! ## numbers -/
theorem ia_E_lt (x : Int32) : ia_E x < 4294967296 := Nat.mod_lt _ (by decide)
theorem ia_toInt (x : Int32) : x.toInt = (ia_E x : Int) - 2147483648 := by
  have h1 : x.toInt = x.toBitVec.toInt := rfl
  have h2 : x.toBitVec.toNat < 4294967296 := x.toBitVec.isLt
  rw [h1, BitVec.toInt_eq_toNat_cond, ia_E]
  split <;> omega
theorem ia_DE (x : Int32) : ia_D (ia_E x) = x := by
  have h2 : x.toBitVec.toNat < 4294967296 := x.toBitVec.isLt
  unfold ia_D ia_E
  apply Int32.toBitVec_inj.mp
  apply BitVec.eq_of_toNat_eq
  show (BitVec.ofNat 32 ((x.toBitVec.toNat + 2147483648) % 4294967296 + 2147483648)).toNat = _
  rw [BitVec.toNat_ofNat]
  omega
theorem ia_E_inj {x y : Int32} (h : ia_E x = ia_E y) : x = y := by rw [← ia_DE x, ← ia_DE y, h]
theorem ia_lt {x y : Int32} : x < y ↔ ia_E x < ia_E y := by
  rw [Int32.lt_iff_toInt_lt, ia_toInt, ia_toInt]
  omega
theorem ia_eq {x y : Int32} : x = y ↔ ia_E x = ia_E y := ⟨fun h => by rw [h], ia_E_inj⟩
theorem ia_le {x y : Int32} : x ≤ y ↔ ia_E x ≤ ia_E y := by
  rw [Int32.le_iff_toInt_le, ia_toInt, ia_toInt]
  omega
theorem ia_E0 : ia_E 0 = 2147483648 := by decide
theorem ia_cl {x : Int32} (h : 2147483648 ≤ ia_E x) : x.toNatClampNeg = ia_E x - 2147483648 := by
  show x.toInt.toNat = _
  rw [ia_toInt]
  omega
theorem ia_neg {x : Int32} : x < 0 ↔ ia_E x < 2147483648 := by rw [ia_lt, ia_E0]
theorem ia_Eadd (x y : Int32) : ia_E (x + y) = Nat.mod (Nat.add (Nat.add (ia_E x) (ia_E y)) 2147483648) 4294967296 := by
  have h1 : (x + y).toBitVec.toNat = (x.toBitVec.toNat + y.toBitVec.toNat) % 4294967296 := by
    show (x.toBitVec + y.toBitVec).toNat = _
    rw [BitVec.toNat_add]
  show _ = (ia_E x + ia_E y + 2147483648) % 4294967296
  unfold ia_E
  rw [h1]
  omega
theorem ia_Esub (x y : Int32) : ia_E (x - y) = Nat.mod (Nat.sub (Nat.add (ia_E x) 6442450944) (ia_E y)) 4294967296 := by
  have h0 : y.toBitVec.toNat < 4294967296 := y.toBitVec.isLt
  have h1 : (x - y).toBitVec.toNat = (4294967296 - y.toBitVec.toNat + x.toBitVec.toNat) % 4294967296 := by
    show (x.toBitVec - y.toBitVec).toNat = _
    rw [BitVec.toNat_sub]
  show _ = (ia_E x + 6442450944 - ia_E y) % 4294967296
  unfold ia_E
  rw [h1]
  omega
/-! ## forcing -/
noncomputable def ia_frc {α : Type} (n : Nat) (k : Nat → α) : α := Nat.rec (motive := fun _ => α) (k 0) (fun m _ => k (Nat.succ m)) n
theorem ia_frc_eq {α : Type} (n : Nat) (k : Nat → α) : ia_frc n k = k n := by cases n <;> rfl
noncomputable def ia_at {α : Type} (l : List α) (n : Nat) : Option α := List.rec (motive := fun _ => Nat → Option α) (fun _ => none) (fun a _ ih n => Nat.rec (motive := fun _ => Option α) (some a) (fun m _ => ih m) n) l n
theorem ia_at_eq {α : Type} (l : List α) : ∀ n : Nat, ia_at l n = l[n]? := by
  induction l with
  | nil => intro n; rfl
  | cons a l ih => intro n; cases n with
    | zero => rfl
    | succ m => exact (ih m).trans (List.getElem?_cons_succ).symm
noncomputable def ia_setK {α β : Type} (l : List α) (n : Nat) (v : α) (k : List α → β) : β := List.rec (motive := fun _ => Nat → (List α → β) → β) (fun _ k => k []) (fun a t ih n k => Nat.rec (motive := fun _ => β) (k (v :: t)) (fun m _ => ih m (fun t' => k (a :: t'))) n) l n k
theorem ia_setK_eq {α β : Type} (v : α) (l : List α) : ∀ (n : Nat) (k : List α → β), ia_setK l n v k = k (l.set n v) := by
  induction l with
  | nil => intro n k; rfl
  | cons a l ih => intro n k; cases n with
    | zero => rfl
    | succ m => exact ih m (fun t' => k (a :: t'))
noncomputable def ia_get2 {α : Type} (l : List (List α)) (k : Nat) : Option α := match ia_at l (Nat.div k 16) with
  | some c => ia_at c (Nat.mod k 16)
  | none => none
noncomputable def ia_set2 {α : Type} (l : List (List α)) (k : Nat) (v : α) : List (List α) := match ia_at l (Nat.div k 16) with
  | some c => l.set (Nat.div k 16) (c.set (Nat.mod k 16) v)
  | none => l
noncomputable def ia_set2K {α β : Type} (l : List (List α)) (k : Nat) (v : α) (f : List (List α) → β) : β := match ia_at l (Nat.div k 16) with
  | some c => ia_setK c (Nat.mod k 16) v (fun c' => ia_setK l (Nat.div k 16) c' f)
  | none => f l
theorem ia_set2K_eq {α β : Type} (l : List (List α)) (k : Nat) (v : α) (f : List (List α) → β) : ia_set2K l k v f = f (ia_set2 l k v) := by
  unfold ia_set2K ia_set2
  cases ia_at l (Nat.div k 16) with
  | none => rfl
  | some c => simp only [ia_setK_eq]
theorem ia_get2_eq {α : Type} {l : List (List α)} {k : Nat} {w : α} (h : ia_get2 l k = some w) : ∃ c, l[k / 16]? = some c ∧ c[k % 16]? = some w := by
  unfold ia_get2 at h
  cases hc : ia_at l (Nat.div k 16) with
  | none => rw [hc] at h; cases h
  | some c =>
    rw [hc] at h
    exact ⟨c, (ia_at_eq l _).symm.trans hc, (ia_at_eq c _).symm.trans h⟩
theorem ia_get2_of {α : Type} {l : List (List α)} {k : Nat} {w : α} {c : List α} (h1 : l[k / 16]? = some c) (h2 : c[k % 16]? = some w) : ia_get2 l k = some w := by
  unfold ia_get2
  rw [ia_at_eq, show Nat.div k 16 = k / 16 from rfl, h1]
  show ia_at c (k % 16) = _
  rw [ia_at_eq, h2]
theorem ia_get2_set {α : Type} {l : List (List α)} {k j : Nat} {v w : α} (h : ia_get2 (ia_set2 l k v) j = some w) : (j = k ∧ w = v) ∨ (j ≠ k ∧ ia_get2 l j = some w) := by
  by_cases hjk : j = k
  · refine Or.inl ⟨hjk, ?_⟩
    subst hjk
    obtain ⟨c, h1, h2⟩ := ia_get2_eq h
    unfold ia_set2 at h1
    cases hc : ia_at l (Nat.div j 16) with
    | none =>
      rw [hc] at h1
      rw [ia_at_eq] at hc
      rw [show l[j / 16]? = none from hc] at h1
      cases h1
    | some c0 =>
      rw [hc] at h1
      rw [ia_at_eq] at hc
      have hl : j / 16 < l.length := (List.getElem?_eq_some_iff.mp hc).1
      have h1' : (l.set (j / 16) (c0.set (j % 16) v))[j / 16]? = some c := h1
      rw [List.getElem?_set_self hl] at h1'
      cases h1'
      have hl2 : j % 16 < c0.length := by
        have := (List.getElem?_eq_some_iff.mp h2).1
        simpa using this
      rw [List.getElem?_set_self hl2] at h2
      exact (Option.some.inj h2).symm
  · refine Or.inr ⟨hjk, ?_⟩
    obtain ⟨c, h1, h2⟩ := ia_get2_eq h
    unfold ia_set2 at h1
    cases hc : ia_at l (Nat.div k 16) with
    | none => rw [hc] at h1; exact ia_get2_of h1 h2
    | some c0 =>
      rw [hc] at h1
      rw [ia_at_eq] at hc
      have hc' : l[k / 16]? = some c0 := hc
      have hl : k / 16 < l.length := (List.getElem?_eq_some_iff.mp hc').1
      have h1' : (l.set (k / 16) (c0.set (k % 16) v))[j / 16]? = some c := h1
      by_cases hq : j / 16 = k / 16
      · rw [hq, List.getElem?_set_self hl] at h1'
        cases h1'
        have hr : k % 16 ≠ j % 16 := fun z => hjk (by omega)
        rw [List.getElem?_set_ne hr] at h2
        exact ia_get2_of (hq ▸ hc') h2
      · rw [List.getElem?_set_ne (fun z => hq z.symm)] at h1'
        exact ia_get2_of h1' h2

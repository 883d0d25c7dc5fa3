/-! ## texts: their bytes, their tokens (pure); rows of longs -/
abbrev tx_Bl (c : Int) : Prop := c = 32 ∨ c = 10
abbrev tx_Sm (c : Int) : Prop := 97 ≤ c ∧ c ≤ 122
abbrev tx_Dg (c : Int) : Prop := 48 ≤ c ∧ c ≤ 57
abbrev tx_Sg (c : Int) : Prop := c = 59 ∨ c = 40 ∨ c = 41 ∨ (60 ≤ c ∧ c ≤ 62)
def tx_bl (c : Int) : Bool := decide (tx_Bl c)
def tx_an (c : Int) : Bool := decide (tx_Sm c ∨ tx_Dg c)
/-- the first place from p on, ahead of n, whose byte isn't such -/
def tx_go (B : Int → Bool) (T : Nat → Int) (n : Nat) : Nat → Nat → Nat
  | 0, p => p
  | f + 1, p => if p < n ∧ B (T p) = true then tx_go B T n f (p + 1) else p
theorem tx_go_eq {B : Int → Bool} {T : Nat → Int} {n : Nat} : ∀ f p q, p ≤ q → (q ≤ n ∨ q = p) → n - p ≤ f → (∀ j, p ≤ j → j < q → B (T j) = true) → (n ≤ q ∨ B (T q) = false) → tx_go B T n f p = q := by
  intro f
  induction f with
  | zero =>
    intro p q h1 h2 h3 h4 h5
    show p = q
    omega
  | succ f ih =>
    intro p q h1 h2 h3 h4 h5
    show (if p < n ∧ B (T p) = true then tx_go B T n f (p + 1) else p) = q
    rcases Nat.lt_or_ge p q with h | h
    · rw [if_pos ⟨by omega, h4 p (Nat.le_refl _) h⟩]
      exact ih (p + 1) q h (by omega) (by omega) (fun j a b => h4 j (by omega) b) h5
    · have e : p = q := by omega
      subst e
      refine if_neg (fun hh => ?_)
      obtain ⟨g1, g2⟩ := hh
      rcases h5 with h5 | h5
      · omega
      · rw [g2] at h5
        cases h5
def tx_sk (T : Nat → Int) (n p : Nat) : Nat := tx_go tx_bl T n (n - p) p
def tx_re (T : Nat → Int) (n p : Nat) : Nat := tx_go tx_an T n (n - p) p
theorem tx_sk_eq {T : Nat → Int} {n p q : Nat} (h1 : p ≤ q) (h2 : q ≤ n ∨ q = p) (h4 : ∀ j, p ≤ j → j < q → tx_Bl (T j)) (h5 : n ≤ q ∨ ¬ tx_Bl (T q)) : tx_sk T n p = q := tx_go_eq _ _ _ h1 h2 (Nat.le_refl _) (fun j a b => decide_eq_true (h4 j a b)) (h5.imp id (fun h => decide_eq_false h))
theorem tx_re_eq {T : Nat → Int} {n p q : Nat} (h1 : p ≤ q) (h2 : q ≤ n ∨ q = p) (h4 : ∀ j, p ≤ j → j < q → tx_Sm (T j) ∨ tx_Dg (T j)) (h5 : n ≤ q ∨ ¬ (tx_Sm (T q) ∨ tx_Dg (T q))) : tx_re T n p = q := tx_go_eq _ _ _ h1 h2 (Nat.le_refl _) (fun j a b => decide_eq_true (h4 j a b)) (h5.imp id (fun h => decide_eq_false h))
/-- letters among the first k -/
def tx_ct (T : Nat → Int) (s : Nat) : Nat → Nat
  | 0 => 0
  | k + 1 => if tx_Sm (T (s + k)) then tx_ct T s k + 1 else tx_ct T s k
theorem tx_ct_le (T : Nat → Int) (s : Nat) : ∀ k, tx_ct T s k ≤ k
  | 0 => Nat.le_refl _
  | k + 1 => by
    have h := tx_ct_le T s k
    unfold tx_ct
    split
    · omega
    · omega
theorem tx_ct_s {T : Nat → Int} {s k : Nat} (h : tx_Sm (T (s + k))) : tx_ct T s (k + 1) = tx_ct T s k + 1 := if_pos h
theorem tx_ct_n {T : Nat → Int} {s k : Nat} (h : ¬ tx_Sm (T (s + k))) : tx_ct T s (k + 1) = tx_ct T s k := if_neg h
/-- the letters as one number, the digits as one number -/
def tx_cd (T : Nat → Int) (s : Nat) : Nat → Nat
  | 0 => 0
  | k + 1 => tx_cd T s k * 32 + (T (s + k) - 96).toNat
def tx_nu (T : Nat → Int) (s : Nat) : Nat → Int
  | 0 => 0
  | k + 1 => tx_nu T s k * 10 + (T (s + k) - 48)
/-- the same word with a byte a letter -/
def tx_f : Nat → Nat → Nat
  | 0, _ => 0
  | f + 1, c => if c = 0 then 0 else tx_f f (c / 32) * 256 + (c % 32 + 96)
theorem tx_f_inj : ∀ (f a b : Nat), a < 32 ^ f → b < 32 ^ f → tx_f f a = tx_f f b → a = b
  | 0, a, b, ha, hb, _ => by
    have h1 : a < 1 := ha
    have h2 : b < 1 := hb
    omega
  | f + 1, a, b, ha, hb, h => by
    have e1 : tx_f (f + 1) a = if a = 0 then 0 else tx_f f (a / 32) * 256 + (a % 32 + 96) := rfl
    have e2 : tx_f (f + 1) b = if b = 0 then 0 else tx_f f (b / 32) * 256 + (b % 32 + 96) := rfl
    rw [e1, e2] at h
    rw [Nat.pow_succ] at ha hb
    have m1 : a % 32 < 32 := Nat.mod_lt _ (by decide)
    have m2 : b % 32 < 32 := Nat.mod_lt _ (by decide)
    by_cases ha0 : a = 0
    · rw [if_pos ha0] at h
      by_cases hb0 : b = 0
      · omega
      · rw [if_neg hb0] at h
        omega
    · rw [if_neg ha0] at h
      by_cases hb0 : b = 0
      · rw [if_pos hb0] at h
        omega
      · rw [if_neg hb0] at h
        have h3 := tx_f_inj f (a / 32) (b / 32) (by omega) (by omega) (by omega)
        omega
theorem tx_f_lt : ∀ (f a : Nat), tx_f f a < 256 ^ f
  | 0, a => Nat.lt_succ_self 0
  | f + 1, a => by
    have e1 : tx_f (f + 1) a = if a = 0 then 0 else tx_f f (a / 32) * 256 + (a % 32 + 96) := rfl
    have h := tx_f_lt f (a / 32)
    have m1 : a % 32 < 32 := Nat.mod_lt _ (by decide)
    rw [e1, Nat.pow_succ]
    split
    · exact Nat.mul_pos (Nat.pow_pos (by decide)) (by decide)
    · omega
theorem tx_f_up : ∀ (f a : Nat), a < 32 ^ f → tx_f (f + 1) a = tx_f f a
  | 0, a, ha => by
    have h1 : a < 1 := ha
    have e : a = 0 := by omega
    subst e
    rfl
  | f + 1, a, ha => by
    have e1 : tx_f (f + 1 + 1) a = if a = 0 then 0 else tx_f (f + 1) (a / 32) * 256 + (a % 32 + 96) := rfl
    have e2 : tx_f (f + 1) a = if a = 0 then 0 else tx_f f (a / 32) * 256 + (a % 32 + 96) := rfl
    rw [Nat.pow_succ] at ha
    rw [e1, e2, tx_f_up f (a / 32) (by omega)]
theorem tx_f_ups {a : Nat} : ∀ (g f : Nat), a < 32 ^ f → tx_f (f + g) a = tx_f f a
  | 0, f, _ => rfl
  | g + 1, f, h => by
    have h2 : a < 32 ^ (f + g) := Nat.lt_of_lt_of_le h (Nat.pow_le_pow_right (by decide) (by omega))
    exact (tx_f_up (f + g) a h2).trans (tx_f_ups g f h)
/-- a word's number as the reference holds it -/
def tx_F (c : Nat) : Nat := tx_f 7 c
theorem tx_F_inj {a b : Nat} (ha : a < 32 ^ 7) (hb : b < 32 ^ 7) (h : tx_F a = tx_F b) : a = b := tx_f_inj 7 a b ha hb h
theorem tx_cd_lt {T : Nat → Int} {s : Nat} : ∀ k, (∀ j, j < k → tx_Sm (T (s + j))) → tx_cd T s k < 32 ^ k
  | 0, _ => Nat.lt_succ_self 0
  | k + 1, h => by
    have h1 := tx_cd_lt (T := T) (s := s) k (fun j hj => h j (by omega))
    have h2 := h k (Nat.lt_succ_self k)
    have e : tx_cd T s (k + 1) = tx_cd T s k * 32 + (T (s + k) - 96).toNat := rfl
    rw [e, Nat.pow_succ]
    omega
theorem tx_F_step {T : Nat → Int} {s k : Nat} (hk : k < 7) (h : ∀ j, j ≤ k → tx_Sm (T (s + j))) : tx_F (tx_cd T s (k + 1)) = tx_F (tx_cd T s k) * 256 + (T (s + k)).toNat := by
  have h1 := tx_cd_lt (T := T) (s := s) k (fun j hj => h j (by omega))
  have h2 := h k (Nat.le_refl k)
  have e : tx_cd T s (k + 1) = tx_cd T s k * 32 + (T (s + k) - 96).toNat := rfl
  have q6 : tx_cd T s k < 32 ^ 6 := Nat.lt_of_lt_of_le h1 (Nat.pow_le_pow_right (by decide) (by omega))
  have e2 : tx_F (tx_cd T s (k + 1)) = if tx_cd T s (k + 1) = 0 then 0 else tx_f 6 (tx_cd T s (k + 1) / 32) * 256 + (tx_cd T s (k + 1) % 32 + 96) := rfl
  have e3 : tx_cd T s (k + 1) / 32 = tx_cd T s k := by omega
  have e4 : tx_cd T s (k + 1) % 32 + 96 = (T (s + k)).toNat := by omega
  rw [e2, if_neg (by omega), e3, e4]
  rw [show tx_F (tx_cd T s k) = tx_f 6 (tx_cd T s k) from tx_f_up 6 _ q6]
/-- the run of k letters and digits at s as a token: sort (0 the end, 1 a word, 2 a number, 3 a sign, 4 none), place, place behind, number or sign, word -/
def tx_rn (T : Nat → Int) (s k : Nat) : Nat × Nat × Nat × Int × Nat := if tx_ct T s k = k ∧ k ≤ 7 then (1, s, s + k, 0, tx_cd T s k) else if tx_ct T s k = 0 ∧ k ≤ 3 then (2, s, s + k, tx_nu T s k, 0) else (4, s, s + k, 0, 0)
/-- the token from p on, of a text of n bytes that may have m -/
def tx_tk (T : Nat → Int) (n m p : Nat) : Nat × Nat × Nat × Int × Nat :=
  if m < n ∧ m ≤ tx_sk T n p then (4, m, 0, 0, 0)
  else if n ≤ tx_sk T n p then (0, tx_sk T n p, 0, 0, 0)
  else if tx_Sm (T (tx_sk T n p)) ∨ tx_Dg (T (tx_sk T n p)) then tx_rn T (tx_sk T n p) (tx_re T n (tx_sk T n p) - tx_sk T n p)
  else (if tx_Sg (T (tx_sk T n p)) then 3 else 4, tx_sk T n p, tx_sk T n p + 1, T (tx_sk T n p), 0)
theorem tx_tk_over {T : Nat → Int} {n m p : Nat} (h1 : m < n) (h2 : m ≤ tx_sk T n p) : tx_tk T n m p = (4, m, 0, 0, 0) := if_pos ⟨h1, h2⟩
theorem tx_tk_end {T : Nat → Int} {n m p s : Nat} (hs : tx_sk T n p = s) (h1 : n ≤ m ∨ s < m) (h2 : n ≤ s) : tx_tk T n m p = (0, s, 0, 0, 0) := by
  unfold tx_tk
  rw [hs, if_neg (by omega), if_pos h2]
theorem tx_tk_run {T : Nat → Int} {n m p s k : Nat} (hs : tx_sk T n p = s) (h1 : n ≤ m ∨ s < m) (h2 : s < n) (h3 : tx_Sm (T s) ∨ tx_Dg (T s)) (he : tx_re T n s = s + k) : tx_tk T n m p = tx_rn T s k := by
  unfold tx_tk
  rw [hs, if_neg (by omega), if_neg (by omega), if_pos h3, he, Nat.add_sub_cancel_left]
theorem tx_tk_sign {T : Nat → Int} {n m p s : Nat} (hs : tx_sk T n p = s) (h1 : n ≤ m ∨ s < m) (h2 : s < n) (h3 : ¬ (tx_Sm (T s) ∨ tx_Dg (T s))) : tx_tk T n m p = (if tx_Sg (T s) then 3 else 4, s, s + 1, T s, 0) := by
  unfold tx_tk
  rw [hs, if_neg (by omega), if_neg (by omega), if_neg h3]
/-! ### rows of longs -/
section TXL
variable {C : Nat → List cm_V → cm_W → cm_O → Prop} {y pc : Nat} {lv : cm_L} {st : List cm_V} {w : cm_W} {Q : cm_O → Prop}
theorem aw_lconst {c : Fin 2} (hd : decode (ia_code y) pc = .ok (.lconst c, 1)) (k : cm_X C y (pc + 1) lv (.inr (.inl (Int64.ofNat c.val)) :: st) w Q) : cm_X C y pc lv st w Q := cm_X_do (q := (pc + 1, lv, .inr (.inl (Int64.ofNat c.val)) :: st, w)) hd rfl k
theorem aw_i2l {x : Int32} (hd : decode (ia_code y) pc = .ok (.i2l, 1)) (k : cm_X C y (pc + 1) lv (.inr (.inl x.toInt64) :: st) w Q) : cm_X C y pc lv (.inl x :: st) w Q := cm_X_do (q := (pc + 1, lv, .inr (.inl x.toInt64) :: st, w)) hd rfl k
theorem aw_ladd {x z : Int64} (hd : decode (ia_code y) pc = .ok (.ladd, 1)) (k : cm_X C y (pc + 1) lv (.inr (.inl (x + z)) :: st) w Q) : cm_X C y pc lv (.inr (.inl z) :: .inr (.inl x) :: st) w Q := cm_X_do (q := (pc + 1, lv, .inr (.inl (x + z)) :: st, w)) hd rfl k
theorem aw_lmul {x z : Int64} (hd : decode (ia_code y) pc = .ok (.lmul, 1)) (k : cm_X C y (pc + 1) lv (.inr (.inl (x * z)) :: st) w Q) : cm_X C y pc lv (.inr (.inl z) :: .inr (.inl x) :: st) w Q := cm_X_do (q := (pc + 1, lv, .inr (.inl (x * z)) :: st, w)) hd rfl k
theorem aw_lor {x z : Int64} (hd : decode (ia_code y) pc = .ok (.lor, 1)) (k : cm_X C y (pc + 1) lv (.inr (.inl (x ||| z)) :: st) w Q) : cm_X C y pc lv (.inr (.inl z) :: .inr (.inl x) :: st) w Q := cm_X_do (q := (pc + 1, lv, .inr (.inl (x ||| z)) :: st, w)) hd rfl k
theorem aw_lshl {x : Int64} {z : Int32} (hd : decode (ia_code y) pc = .ok (.lshl, 1)) (k : cm_X C y (pc + 1) lv (.inr (.inl (x <<< (z.toInt64 &&& 63))) :: st) w Q) : cm_X C y pc lv (.inl z :: .inr (.inl x) :: st) w Q := cm_X_do (q := (pc + 1, lv, .inr (.inl (x <<< (z.toInt64 &&& 63))) :: st, w)) hd rfl k
theorem aw_lcmp {x z : Int64} (hd : decode (ia_code y) pc = .ok (.lcmp, 1)) (k : cm_X C y (pc + 1) lv (.inl (lg_cmp x z) :: st) w Q) : cm_X C y pc lv (.inr (.inl z) :: .inr (.inl x) :: st) w Q := cm_X_do (q := (pc + 1, lv, .inl (lg_cmp x z) :: st, w)) hd rfl k
theorem aw_getL {i n sl : Nat} (hg : wk_gf y i n sl 1 = true) (hd : decode (ia_code y) pc = .ok (.getfield i, 3)) (k : cm_X C y (pc + 3) lv (.inr (.inl (w.2 n sl)) :: st) w Q) : cm_X C y pc lv (.inr (.inr (some n)) :: st) w Q := wk_gf_ok hg hd k
noncomputable def aw_pl (y i n sl kd : Nat) : Bool := match ia_pl (ia_cls y) i with
  | some (0, ci, s, k, _) => (Nat.beq s sl && Nat.beq k kd) && (match cm_sh n with
    | some c => Nat.beq c.1 ci && (Nat.blt sl c.2.1 && Nat.beq (cm_code c sl) 1)
    | none => false)
  | _ => false
theorem aw_putL {i n sl kd : Nat} {x : Int64} (hg : aw_pl y i n sl kd = true) (hfit : ∀ ci, ia_fit y ci kd (cm_e (.inr (.inl x))) = true) (hd : decode (ia_code y) pc = .ok (.putfield i, 3)) (k : cm_X C y (pc + 3) lv st (cm_u2 w n sl x) Q) : cm_X C y pc lv (.inr (.inl x) :: .inr (.inr (some n)) :: st) w Q := by
  unfold aw_pl at hg
  split at hg
  · rename_i ci s k0 z2 hpl
    simp only [Bool.and_eq_true] at hg
    have e := ia_beq hg.1.1
    have e2 := ia_beq hg.1.2
    subst e
    subst e2
    have hg2 := hg.2
    split at hg2
    · rename_i c hc
      simp only [Bool.and_eq_true] at hg2
      refine cm_X_do (q := (pc + 3, lv, st, cm_u2 w n s x)) hd ?_ k
      show (match ia_pl (ia_cls y) i with
        | some (0, ci, sl, kd, _) => (match cm_sh n with
          | some c => ia_if (Nat.beq c.1 ci && (ia_fit y ci kd (cm_e (.inr (.inl x))) && Nat.blt sl c.2.1)) (match cm_put w n sl (cm_code c sl) (.inr (.inl x)) with
            | some w' => cm_nx (Nat.add pc 3) lv st w'
            | none => none)
          | none => none)
        | _ => none) = _
      rw [hpl]
      show (match cm_sh n with
          | some c => ia_if (Nat.beq c.1 ci && (ia_fit y ci k0 (cm_e (.inr (.inl x))) && Nat.blt s c.2.1)) (match cm_put w n s (cm_code c s) (.inr (.inl x)) with
            | some w' => cm_nx (Nat.add pc 3) lv st w'
            | none => none)
          | none => none) = _
      rw [hc]
      refine cm_ifk (by rw [hg2.1, hfit, hg2.2.1]; rfl) ?_
      rw [ia_beq hg2.2.2]
      rfl
    · cases hg2
  · cases hg
end TXL
theorem tx_u2_self {w : cm_W} {n i : Nat} {x : Int64} : (cm_u2 w n i x).2 n i = x := by
  show (if n = n ∧ i = i then x else w.2 n i) = x
  exact if_pos ⟨rfl, rfl⟩
theorem tx_u2_ne {w : cm_W} {n i k j : Nat} {x : Int64} (h : ¬ (k = n ∧ j = i)) : (cm_u2 w n i x).2 k j = w.2 k j := by
  show (if k = n ∧ j = i then x else w.2 k j) = w.2 k j
  exact if_neg h

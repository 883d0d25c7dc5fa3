/-! ## a sentence's text, read purely (wip/p22/gen_sp.py) -/
abbrev sp_T : Type := Nat × Nat × Nat × Int × Nat
abbrev sp_R : Type := (Nat × Nat) ⊕ (Nat × Nat)
/-- how a ONE begins: a bracket, 'not', 'ill' or 'owes', 'like', 'in', a number's word; else no such token -/
def sp_pick (t : sp_T) (a b c d f g : sp_R) : sp_R := if t.1 = 3 ∧ t.2.2.2.1 = 40 then a else if ps_wd t 13 then b else if ps_wd t 14 ∨ ps_wd t 15 then c else if ps_wd t 16 then d else if ps_wd t 17 then f else if ps_wd t 18 ∨ ps_wd t 19 ∨ ps_wd t 20 ∨ ps_wd t 21 then g else .inl (1, t.2.1)
/-- it doesn't begin one -/
def sp_no (t : sp_T) : Prop := ¬ (t.1 = 3 ∧ t.2.2.2.1 = 40) ∧ ∀ k, 13 ≤ k → k ≤ 21 → ¬ ps_wd t k
def sp_cmp (T : Nat → Int) (n m o p : Nat) : sp_R := if (tx_tk T n m p).1 = 3 ∧ 60 ≤ (tx_tk T n m p).2.2.2.1 ∧ (tx_tk T n m p).2.2.2.1 ≤ 62 then (if tx_num (tx_tk T n m (tx_tk T n m p).2.2.1) 0 999 = 0 then .inr (o, (tx_tk T n m (tx_tk T n m p).2.2.1).2.2.1) else .inl (tx_num (tx_tk T n m (tx_tk T n m p).2.2.1) 0 999, (tx_tk T n m (tx_tk T n m p).2.2.1).2.1)) else .inl (1, (tx_tk T n m p).2.1)
def sp_nam (T : Nat → Int) (n m : Nat) (nm : Nat → Nat) (b k o p : Nat) : sp_R := match ps_look T n m nm b k p with
  | .inl e => .inl e
  | .inr _ => .inr (o, (tx_tk T n m p).2.2.1)
def sp_cl (T : Nat → Int) (n m : Nat) (r : sp_R) : sp_R := match r with
  | .inl e => .inl e
  | .inr z => if (tx_tk T n m z.2).1 = 3 ∧ (tx_tk T n m z.2).2.2.2.1 = 41 then .inr (z.1, (tx_tk T n m z.2).2.2.1) else .inl (1, (tx_tk T n m z.2).2.1)
def sp_lp (T : Nat → Int) (n m : Nat) (one : Nat → Nat → sp_R) : Nat → Nat → Nat → sp_R
  | 0, _, _ => .inl (0, 0)
  | g + 1, o, p => match one o p with
    | .inl e => .inl e
    | .inr z => if ps_wd (tx_tk T n m z.2) 12 ∨ ps_wd (tx_tk T n m z.2) 11 then sp_lp T n m one g z.1 (tx_tk T n m z.2).2.2.1 else .inr z
/-- eight within one another: e more may be -/
def sp_one (T : Nat → Int) (n m : Nat) (h : Nat → Int) (nm : Nat → Nat) : Nat → Nat → Nat → sp_R
  | 0, _, p => sp_pick (tx_tk T n m p) (.inl (4, (tx_tk T n m p).2.1)) (.inl (4, (tx_tk T n m p).2.1)) (.inl (4, (tx_tk T n m p).2.1)) (.inl (4, (tx_tk T n m p).2.1)) (.inl (4, (tx_tk T n m p).2.1)) (.inl (4, (tx_tk T n m p).2.1))
  | e + 1, o, p => if 20 ≤ o then sp_pick (tx_tk T n m p) (.inl (4, (tx_tk T n m p).2.1)) (.inl (4, (tx_tk T n m p).2.1)) (.inl (4, (tx_tk T n m p).2.1)) (.inl (4, (tx_tk T n m p).2.1)) (.inl (4, (tx_tk T n m p).2.1)) (.inl (4, (tx_tk T n m p).2.1)) else sp_pick (tx_tk T n m p) (sp_cl T n m (sp_lp T n m (fun o p => sp_one T n m h nm e o p) 21 (o + 1) (tx_tk T n m p).2.2.1)) (sp_one T n m h nm e (o + 1) (tx_tk T n m p).2.2.1) (.inr (o + 1, (tx_tk T n m p).2.2.1)) (sp_nam T n m nm 0 (h 0).toNat (o + 1) (tx_tk T n m p).2.2.1) (sp_nam T n m nm 10 (h 2).toNat (o + 1) (tx_tk T n m p).2.2.1) (sp_cmp T n m (o + 1) (tx_tk T n m p).2.2.1)
/-- the whole text: how many, or the fault -/
def sp_all (T : Nat → Int) (n m : Nat) (h : Nat → Int) (nm : Nat → Nat) : (Nat × Nat) ⊕ Nat := match sp_lp T n m (fun o p => sp_one T n m h nm 8 o p) 21 0 0 with
  | .inl e => .inl e
  | .inr z => if (tx_tk T n m z.2).1 = 0 then .inr z.1 else .inl (1, (tx_tk T n m z.2).2.1)
section SP
variable {t : sp_T} {a b c d f g : sp_R}
theorem sp_p40 (h : t.1 = 3 ∧ t.2.2.2.1 = 40) : sp_pick t a b c d f g = a := if_pos h
theorem sp_p13 (h : ps_wd t 13) : sp_pick t a b c d f g = b := by
  unfold sp_pick
  rw [if_neg (fun z => by have := z.1; have := h.1; omega), if_pos h]
theorem sp_p14 (h : ps_wd t 14) : sp_pick t a b c d f g = c := by
  unfold sp_pick
  rw [if_neg (fun z => by have := z.1; have := h.1; omega), if_neg (ps_wd_ne (i := 13) h (by omega) (by omega) (by omega)), if_pos (.inl h)]
theorem sp_p15 (h : ps_wd t 15) : sp_pick t a b c d f g = c := by
  unfold sp_pick
  rw [if_neg (fun z => by have := z.1; have := h.1; omega), if_neg (ps_wd_ne (i := 13) h (by omega) (by omega) (by omega)), if_pos (.inr h)]
theorem sp_p16 (h : ps_wd t 16) : sp_pick t a b c d f g = d := by
  unfold sp_pick
  rw [if_neg (fun z => by have := z.1; have := h.1; omega), if_neg (ps_wd_ne (i := 13) h (by omega) (by omega) (by omega)), if_neg (fun z => z.elim (fun z => ps_wd_ne (i := 14) h (by omega) (by omega) (by omega) z) (fun z => ps_wd_ne (i := 15) h (by omega) (by omega) (by omega) z)), if_pos h]
theorem sp_p17 (h : ps_wd t 17) : sp_pick t a b c d f g = f := by
  unfold sp_pick
  rw [if_neg (fun z => by have := z.1; have := h.1; omega), if_neg (ps_wd_ne (i := 13) h (by omega) (by omega) (by omega)), if_neg (fun z => z.elim (fun z => ps_wd_ne (i := 14) h (by omega) (by omega) (by omega) z) (fun z => ps_wd_ne (i := 15) h (by omega) (by omega) (by omega) z)), if_neg (ps_wd_ne (i := 16) h (by omega) (by omega) (by omega)), if_pos h]
theorem sp_p18 (h : ps_wd t 18) : sp_pick t a b c d f g = g := by
  unfold sp_pick
  rw [if_neg (fun z => by have := z.1; have := h.1; omega), if_neg (ps_wd_ne (i := 13) h (by omega) (by omega) (by omega)), if_neg (fun z => z.elim (fun z => ps_wd_ne (i := 14) h (by omega) (by omega) (by omega) z) (fun z => ps_wd_ne (i := 15) h (by omega) (by omega) (by omega) z)), if_neg (ps_wd_ne (i := 16) h (by omega) (by omega) (by omega)), if_neg (ps_wd_ne (i := 17) h (by omega) (by omega) (by omega)), if_pos (.inl h)]
theorem sp_p19 (h : ps_wd t 19) : sp_pick t a b c d f g = g := by
  unfold sp_pick
  rw [if_neg (fun z => by have := z.1; have := h.1; omega), if_neg (ps_wd_ne (i := 13) h (by omega) (by omega) (by omega)), if_neg (fun z => z.elim (fun z => ps_wd_ne (i := 14) h (by omega) (by omega) (by omega) z) (fun z => ps_wd_ne (i := 15) h (by omega) (by omega) (by omega) z)), if_neg (ps_wd_ne (i := 16) h (by omega) (by omega) (by omega)), if_neg (ps_wd_ne (i := 17) h (by omega) (by omega) (by omega)), if_pos (.inr (.inl h))]
theorem sp_p20 (h : ps_wd t 20) : sp_pick t a b c d f g = g := by
  unfold sp_pick
  rw [if_neg (fun z => by have := z.1; have := h.1; omega), if_neg (ps_wd_ne (i := 13) h (by omega) (by omega) (by omega)), if_neg (fun z => z.elim (fun z => ps_wd_ne (i := 14) h (by omega) (by omega) (by omega) z) (fun z => ps_wd_ne (i := 15) h (by omega) (by omega) (by omega) z)), if_neg (ps_wd_ne (i := 16) h (by omega) (by omega) (by omega)), if_neg (ps_wd_ne (i := 17) h (by omega) (by omega) (by omega)), if_pos (.inr (.inr (.inl h)))]
theorem sp_p21 (h : ps_wd t 21) : sp_pick t a b c d f g = g := by
  unfold sp_pick
  rw [if_neg (fun z => by have := z.1; have := h.1; omega), if_neg (ps_wd_ne (i := 13) h (by omega) (by omega) (by omega)), if_neg (fun z => z.elim (fun z => ps_wd_ne (i := 14) h (by omega) (by omega) (by omega) z) (fun z => ps_wd_ne (i := 15) h (by omega) (by omega) (by omega) z)), if_neg (ps_wd_ne (i := 16) h (by omega) (by omega) (by omega)), if_neg (ps_wd_ne (i := 17) h (by omega) (by omega) (by omega)), if_pos (.inr (.inr (.inr (h))))]
theorem sp_pno (h : sp_no t) : sp_pick t a b c d f g = .inl (1, t.2.1) := by
  unfold sp_pick
  rw [if_neg h.1, if_neg (h.2 13 (by omega) (by omega)), if_neg (fun z => z.elim (h.2 14 (by omega) (by omega)) (h.2 15 (by omega) (by omega))), if_neg (h.2 16 (by omega) (by omega)), if_neg (h.2 17 (by omega) (by omega)), if_neg (fun z => z.elim (h.2 18 (by omega) (by omega)) (fun z => z.elim (h.2 19 (by omega) (by omega)) (fun z => z.elim (h.2 20 (by omega) (by omega)) (h.2 21 (by omega) (by omega)))))]
/-- all six alike -/
theorem sp_pall {r : sp_R} (h : ¬ sp_no t) : sp_pick t r r r r r r = r := by
  unfold sp_pick
  by_cases h0 : t.1 = 3 ∧ t.2.2.2.1 = 40
  · rw [if_pos h0]
  · rw [if_neg h0]
    by_cases h1 : ps_wd t 13
    · rw [if_pos h1]
    · rw [if_neg h1]
      by_cases h2 : ps_wd t 14 ∨ ps_wd t 15
      · rw [if_pos h2]
      · rw [if_neg h2]
        by_cases h3 : ps_wd t 16
        · rw [if_pos h3]
        · rw [if_neg h3]
          by_cases h4 : ps_wd t 17
          · rw [if_pos h4]
          · rw [if_neg h4]
            by_cases h5 : ps_wd t 18 ∨ ps_wd t 19 ∨ ps_wd t 20 ∨ ps_wd t 21
            · rw [if_pos h5]
            · refine absurd ⟨h0, fun k a b z => ?_⟩ h
              rcases (show k = 13 ∨ k = 14 ∨ k = 15 ∨ k = 16 ∨ k = 17 ∨ k = 18 ∨ k = 19 ∨ k = 20 ∨ k = 21 by omega) with rfl | rfl | rfl | rfl | rfl | rfl | rfl | rfl | rfl
              · exact h1 z
              · exact h2 (.inl z)
              · exact h2 (.inr z)
              · exact h3 z
              · exact h4 z
              · exact h5 (.inl z)
              · exact h5 (.inr (.inl z))
              · exact h5 (.inr (.inr (.inl z)))
              · exact h5 (.inr (.inr (.inr z)))
end SP
section SP2
variable {T : Nat → Int} {n m e o p : Nat} {h : Nat → Int} {nm : Nat → Nat}
theorem sp_1no (hn : sp_no (tx_tk T n m p)) : sp_one T n m h nm e o p = .inl (1, (tx_tk T n m p).2.1) := by
  cases e with
  | zero => exact sp_pno hn
  | succ e =>
    show (if 20 ≤ o then _ else _) = _
    split
    · exact sp_pno hn
    · exact sp_pno hn
theorem sp_1z (hn : ¬ sp_no (tx_tk T n m p)) : sp_one T n m h nm 0 o p = .inl (4, (tx_tk T n m p).2.1) := sp_pall hn
theorem sp_1f (hn : ¬ sp_no (tx_tk T n m p)) (ho : 20 ≤ o) : sp_one T n m h nm e o p = .inl (4, (tx_tk T n m p).2.1) := by
  cases e with
  | zero => exact sp_pall hn
  | succ e => exact (if_pos ho).trans (sp_pall hn)
theorem sp_1s40 (ho : ¬ 20 ≤ o) (ht : (tx_tk T n m p).1 = 3 ∧ (tx_tk T n m p).2.2.2.1 = 40) : sp_one T n m h nm (e + 1) o p = sp_cl T n m (sp_lp T n m (fun o p => sp_one T n m h nm e o p) 21 (o + 1) (tx_tk T n m p).2.2.1) := (if_neg ho).trans (sp_p40 ht)
theorem sp_1s13 (ho : ¬ 20 ≤ o) (ht : ps_wd (tx_tk T n m p) 13) : sp_one T n m h nm (e + 1) o p = sp_one T n m h nm e (o + 1) (tx_tk T n m p).2.2.1 := (if_neg ho).trans (sp_p13 ht)
theorem sp_1s14 (ho : ¬ 20 ≤ o) (ht : ps_wd (tx_tk T n m p) 14) : sp_one T n m h nm (e + 1) o p = .inr (o + 1, (tx_tk T n m p).2.2.1) := (if_neg ho).trans (sp_p14 ht)
theorem sp_1s15 (ho : ¬ 20 ≤ o) (ht : ps_wd (tx_tk T n m p) 15) : sp_one T n m h nm (e + 1) o p = .inr (o + 1, (tx_tk T n m p).2.2.1) := (if_neg ho).trans (sp_p15 ht)
theorem sp_1s16 (ho : ¬ 20 ≤ o) (ht : ps_wd (tx_tk T n m p) 16) : sp_one T n m h nm (e + 1) o p = sp_nam T n m nm 0 (h 0).toNat (o + 1) (tx_tk T n m p).2.2.1 := (if_neg ho).trans (sp_p16 ht)
theorem sp_1s17 (ho : ¬ 20 ≤ o) (ht : ps_wd (tx_tk T n m p) 17) : sp_one T n m h nm (e + 1) o p = sp_nam T n m nm 10 (h 2).toNat (o + 1) (tx_tk T n m p).2.2.1 := (if_neg ho).trans (sp_p17 ht)
theorem sp_1s18 (ho : ¬ 20 ≤ o) (ht : ps_wd (tx_tk T n m p) 18) : sp_one T n m h nm (e + 1) o p = sp_cmp T n m (o + 1) (tx_tk T n m p).2.2.1 := (if_neg ho).trans (sp_p18 ht)
theorem sp_1s19 (ho : ¬ 20 ≤ o) (ht : ps_wd (tx_tk T n m p) 19) : sp_one T n m h nm (e + 1) o p = sp_cmp T n m (o + 1) (tx_tk T n m p).2.2.1 := (if_neg ho).trans (sp_p19 ht)
theorem sp_1s20 (ho : ¬ 20 ≤ o) (ht : ps_wd (tx_tk T n m p) 20) : sp_one T n m h nm (e + 1) o p = sp_cmp T n m (o + 1) (tx_tk T n m p).2.2.1 := (if_neg ho).trans (sp_p20 ht)
theorem sp_1s21 (ho : ¬ 20 ≤ o) (ht : ps_wd (tx_tk T n m p) 21) : sp_one T n m h nm (e + 1) o p = sp_cmp T n m (o + 1) (tx_tk T n m p).2.2.1 := (if_neg ho).trans (sp_p21 ht)
theorem sp_nono {k : Nat} {t : sp_T} (h : ps_wd t k) (h1 : 13 ≤ k) (h2 : k ≤ 21) : ¬ sp_no t := fun z => z.2 k h1 h2 h
theorem sp_nono40 {t : sp_T} (h : t.1 = 3 ∧ t.2.2.2.1 = 40) : ¬ sp_no t := fun z => z.1 h
theorem sp_l_e {one : Nat → Nat → sp_R} {g : Nat} {e : Nat × Nat} (h1 : one o p = .inl e) : sp_lp T n m one (g + 1) o p = .inl e := by
  show (match one o p with
    | .inl e => (Sum.inl e : sp_R)
    | .inr z => if ps_wd (tx_tk T n m z.2) 12 ∨ ps_wd (tx_tk T n m z.2) 11 then sp_lp T n m one g z.1 (tx_tk T n m z.2).2.2.1 else .inr z) = .inl e
  rw [h1]
theorem sp_l_m {one : Nat → Nat → sp_R} {g : Nat} {z : Nat × Nat} (h1 : one o p = .inr z) (h2 : ps_wd (tx_tk T n m z.2) 12 ∨ ps_wd (tx_tk T n m z.2) 11) : sp_lp T n m one (g + 1) o p = sp_lp T n m one g z.1 (tx_tk T n m z.2).2.2.1 := by
  show (match one o p with
    | .inl e => (Sum.inl e : sp_R)
    | .inr z => if ps_wd (tx_tk T n m z.2) 12 ∨ ps_wd (tx_tk T n m z.2) 11 then sp_lp T n m one g z.1 (tx_tk T n m z.2).2.2.1 else .inr z) = _
  rw [h1]
  exact if_pos h2
theorem sp_l_z {one : Nat → Nat → sp_R} {g : Nat} {z : Nat × Nat} (h1 : one o p = .inr z) (h2 : ¬ (ps_wd (tx_tk T n m z.2) 12 ∨ ps_wd (tx_tk T n m z.2) 11)) : sp_lp T n m one (g + 1) o p = .inr z := by
  show (match one o p with
    | .inl e => (Sum.inl e : sp_R)
    | .inr z => if ps_wd (tx_tk T n m z.2) 12 ∨ ps_wd (tx_tk T n m z.2) 11 then sp_lp T n m one g z.1 (tx_tk T n m z.2).2.2.1 else .inr z) = _
  rw [h1]
  exact if_neg h2
theorem sp_c_e {r : sp_R} {e : Nat × Nat} (h1 : r = .inl e) : sp_cl T n m r = .inl e := by
  rw [h1]
  rfl
theorem sp_c_y {r : sp_R} {z : Nat × Nat} (h1 : r = .inr z) (h2 : (tx_tk T n m z.2).1 = 3 ∧ (tx_tk T n m z.2).2.2.2.1 = 41) : sp_cl T n m r = .inr (z.1, (tx_tk T n m z.2).2.2.1) := by
  rw [h1]
  exact if_pos h2
theorem sp_c_n {r : sp_R} {z : Nat × Nat} (h1 : r = .inr z) (h2 : ¬ ((tx_tk T n m z.2).1 = 3 ∧ (tx_tk T n m z.2).2.2.2.1 = 41)) : sp_cl T n m r = .inl (1, (tx_tk T n m z.2).2.1) := by
  rw [h1]
  exact if_neg h2
theorem sp_n_e {b k : Nat} {e : Nat × Nat} (h1 : ps_look T n m nm b k p = .inl e) : sp_nam T n m nm b k o p = .inl e := by
  unfold sp_nam
  rw [h1]
theorem sp_n_y {b k : Nat} {i : Int} (h1 : ps_look T n m nm b k p = .inr i) : sp_nam T n m nm b k o p = .inr (o, (tx_tk T n m p).2.2.1) := by
  unfold sp_nam
  rw [h1]
end SP2

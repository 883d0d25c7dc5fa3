/-! ## a book's text, read purely (wip/p22/gen_bk.py) -/
abbrev bk_R : Type := (Nat × Nat) ⊕ Nat
def bk_nam (T : Nat → Int) (n m : Nat) (nm : Nat → Nat) (b k p : Nat) : bk_R := match ps_look T n m nm b k p with
  | .inl e => .inl e
  | .inr _ => .inr (tx_tk T n m p).2.2.1
/-- what a person does -/
def bk_act (T : Nat → Int) (n m : Nat) (h : Nat → Int) (nm : Nat → Nat) (p : Nat) : bk_R := if ps_wd (tx_tk T n m p) 6 then bk_nam T n m nm 6 (h 1).toNat (tx_tk T n m p).2.2.1 else if ps_wd (tx_tk T n m p) 7 ∨ ps_wd (tx_tk T n m p) 8 then .inr (tx_tk T n m p).2.2.1 else .inl (1, (tx_tk T n m p).2.1)
def bk_line (T : Nat → Int) (n m : Nat) (h : Nat → Int) (nm : Nat → Nat) (l p : Nat) : bk_R := if ps_wd (tx_tk T n m p) 9 then (if 40 ≤ l then .inl (4, (tx_tk T n m p).2.1) else bk_nam T n m nm 10 (h 2).toNat (tx_tk T n m p).2.2.1) else if ps_wd (tx_tk T n m p) 10 then (if 40 ≤ l then .inl (4, (tx_tk T n m p).2.1) else if tx_num (tx_tk T n m (tx_tk T n m p).2.2.1) 1 60 = 0 then .inr (tx_tk T n m (tx_tk T n m p).2.2.1).2.2.1 else .inl (tx_num (tx_tk T n m (tx_tk T n m p).2.2.1) 1 60, (tx_tk T n m (tx_tk T n m p).2.2.1).2.1)) else match ps_look T n m nm 0 (h 0).toNat p with
  | .inl e => .inl e
  | .inr _ => if 40 ≤ l then .inl (4, (tx_tk T n m p).2.1) else bk_act T n m h nm (tx_tk T n m p).2.2.1
def bk_text (T : Nat → Int) (n m : Nat) (h : Nat → Int) (nm : Nat → Nat) : Nat → Nat → Nat → bk_R
  | 0, _, _ => .inl (0, 0)
  | f + 1, l, p => if (tx_tk T n m p).1 = 0 then .inr l else match bk_line T n m h nm l p with
    | .inl e => .inl e
    | .inr p' => if ps_sg T n m p' then bk_text T n m h nm f (l + 1) (tx_tk T n m p').2.2.1 else .inl (1, (tx_tk T n m p').2.1)
section BK
variable {T : Nat → Int} {n m l p : Nat} {h : Nat → Int} {nm : Nat → Nat}
theorem bk_n_e {b k : Nat} {e : Nat × Nat} (h1 : ps_look T n m nm b k p = .inl e) : bk_nam T n m nm b k p = .inl e := by
  unfold bk_nam
  rw [h1]
theorem bk_n_y {b k : Nat} {i : Int} (h1 : ps_look T n m nm b k p = .inr i) : bk_nam T n m nm b k p = .inr (tx_tk T n m p).2.2.1 := by
  unfold bk_nam
  rw [h1]
theorem bk_a6 (h1 : ps_wd (tx_tk T n m p) 6) : bk_act T n m h nm p = bk_nam T n m nm 6 (h 1).toNat (tx_tk T n m p).2.2.1 := if_pos h1
theorem bk_a78 (h6 : ¬ ps_wd (tx_tk T n m p) 6) (h1 : ps_wd (tx_tk T n m p) 7 ∨ ps_wd (tx_tk T n m p) 8) : bk_act T n m h nm p = .inr (tx_tk T n m p).2.2.1 := (if_neg h6).trans (if_pos h1)
theorem bk_an (h6 : ¬ ps_wd (tx_tk T n m p) 6) (h7 : ¬ ps_wd (tx_tk T n m p) 7) (h8 : ¬ ps_wd (tx_tk T n m p) 8) : bk_act T n m h nm p = .inl (1, (tx_tk T n m p).2.1) := (if_neg h6).trans (if_neg (fun z => z.elim h7 h8))
theorem bk_l9f (h1 : ps_wd (tx_tk T n m p) 9) (h2 : 40 ≤ l) : bk_line T n m h nm l p = .inl (4, (tx_tk T n m p).2.1) := (if_pos h1).trans (if_pos h2)
theorem bk_l9 (h1 : ps_wd (tx_tk T n m p) 9) (h2 : ¬ 40 ≤ l) : bk_line T n m h nm l p = bk_nam T n m nm 10 (h 2).toNat (tx_tk T n m p).2.2.1 := (if_pos h1).trans (if_neg h2)
theorem bk_l10f (h0 : ¬ ps_wd (tx_tk T n m p) 9) (h1 : ps_wd (tx_tk T n m p) 10) (h2 : 40 ≤ l) : bk_line T n m h nm l p = .inl (4, (tx_tk T n m p).2.1) := (if_neg h0).trans ((if_pos h1).trans (if_pos h2))
theorem bk_l10y (h0 : ¬ ps_wd (tx_tk T n m p) 9) (h1 : ps_wd (tx_tk T n m p) 10) (h2 : ¬ 40 ≤ l) (h3 : tx_num (tx_tk T n m (tx_tk T n m p).2.2.1) 1 60 = 0) : bk_line T n m h nm l p = .inr (tx_tk T n m (tx_tk T n m p).2.2.1).2.2.1 := (if_neg h0).trans ((if_pos h1).trans ((if_neg h2).trans (if_pos h3)))
theorem bk_l10n (h0 : ¬ ps_wd (tx_tk T n m p) 9) (h1 : ps_wd (tx_tk T n m p) 10) (h2 : ¬ 40 ≤ l) (h3 : tx_num (tx_tk T n m (tx_tk T n m p).2.2.1) 1 60 ≠ 0) : bk_line T n m h nm l p = .inl (tx_num (tx_tk T n m (tx_tk T n m p).2.2.1) 1 60, (tx_tk T n m (tx_tk T n m p).2.2.1).2.1) := (if_neg h0).trans ((if_pos h1).trans ((if_neg h2).trans (if_neg h3)))
theorem bk_lpe (h0 : ¬ ps_wd (tx_tk T n m p) 9) (h1 : ¬ ps_wd (tx_tk T n m p) 10) {e : Nat × Nat} (h2 : ps_look T n m nm 0 (h 0).toNat p = .inl e) : bk_line T n m h nm l p = .inl e := by
  unfold bk_line
  rw [if_neg h0, if_neg h1, h2]
theorem bk_lpf (h0 : ¬ ps_wd (tx_tk T n m p) 9) (h1 : ¬ ps_wd (tx_tk T n m p) 10) {i : Int} (h2 : ps_look T n m nm 0 (h 0).toNat p = .inr i) (h3 : 40 ≤ l) : bk_line T n m h nm l p = .inl (4, (tx_tk T n m p).2.1) := by
  unfold bk_line
  rw [if_neg h0, if_neg h1, h2]
  exact if_pos h3
theorem bk_lpy (h0 : ¬ ps_wd (tx_tk T n m p) 9) (h1 : ¬ ps_wd (tx_tk T n m p) 10) {i : Int} (h2 : ps_look T n m nm 0 (h 0).toNat p = .inr i) (h3 : ¬ 40 ≤ l) : bk_line T n m h nm l p = bk_act T n m h nm (tx_tk T n m p).2.2.1 := by
  unfold bk_line
  rw [if_neg h0, if_neg h1, h2]
  exact if_neg h3
theorem bk_l1 (h0 : (tx_tk T n m p).1 ≠ 1) : bk_line T n m h nm l p = .inl (1, (tx_tk T n m p).2.1) := bk_lpe (fun z => h0 z.1) (fun z => h0 z.1) (if_neg (fun z => h0 z.1))
theorem bk_t0 {f : Nat} (h0 : (tx_tk T n m p).1 = 0) : bk_text T n m h nm (f + 1) l p = .inr l := if_pos h0
theorem bk_te {f : Nat} (h0 : (tx_tk T n m p).1 ≠ 0) {e : Nat × Nat} (h1 : bk_line T n m h nm l p = .inl e) : bk_text T n m h nm (f + 1) l p = .inl e := by
  refine (if_neg h0).trans ?_
  rw [h1]
theorem bk_ts {f p' : Nat} (h0 : (tx_tk T n m p).1 ≠ 0) (h1 : bk_line T n m h nm l p = .inr p') (h2 : ps_sg T n m p') : bk_text T n m h nm (f + 1) l p = bk_text T n m h nm f (l + 1) (tx_tk T n m p').2.2.1 := by
  refine (if_neg h0).trans ?_
  rw [h1]
  exact if_pos h2
theorem bk_tn {f p' : Nat} (h0 : (tx_tk T n m p).1 ≠ 0) (h1 : bk_line T n m h nm l p = .inr p') (h2 : ¬ ps_sg T n m p') : bk_text T n m h nm (f + 1) l p = .inl (1, (tx_tk T n m p').2.1) := by
  refine (if_neg h0).trans ?_
  rw [h1]
  exact if_neg h2
end BK

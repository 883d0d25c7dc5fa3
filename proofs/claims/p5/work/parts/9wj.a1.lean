/-! ## a valley's text, read purely; how each side holds what was read -/
def ps_up (h : Nat → Int) (i : Nat) (v : Int) : Nat → Int := fun j => if j = i then v else h j
def ps_un {α : Type} (nm : Nat → α) (i : Nat) (v : α) : Nat → α := fun j => if j = i then v else nm j
theorem ps_up_self {h : Nat → Int} {i : Nat} {v : Int} : ps_up h i v i = v := if_pos rfl
theorem ps_up_ne {h : Nat → Int} {i j : Nat} {v : Int} (e : j ≠ i) : ps_up h i v j = h j := if_neg e
theorem ps_un_self {α : Type} {h : Nat → α} {i : Nat} {v : α} : ps_un h i v i = v := if_pos rfl
theorem ps_un_ne {α : Type} {h : Nat → α} {i j : Nat} {v : α} (e : j ≠ i) : ps_un h i v j = h j := if_neg e
/-- numbers that follow each other: place, least, greatest -/
def ps_nums (T : Nat → Int) (n m : Nat) : List (Nat × Int × Int) → (Nat → Int) → Nat → (Nat × Nat) ⊕ ((Nat → Int) × Nat)
  | [], h, p => .inr (h, p)
  | e :: r, h, p => if tx_num (tx_tk T n m p) e.2.1 e.2.2 = 0 then ps_nums T n m r (ps_up h e.1 (tx_tk T n m p).2.2.2.1) (tx_tk T n m p).2.2.1 else .inl (tx_num (tx_tk T n m p) e.2.1 e.2.2, (tx_tk T n m p).2.1)
theorem ps_nums_ok {T : Nat → Int} {n m i : Nat} {lo hi : Int} {r : List (Nat × Int × Int)} {h : Nat → Int} {p : Nat} (e : tx_num (tx_tk T n m p) lo hi = 0) : ps_nums T n m ((i, lo, hi) :: r) h p = ps_nums T n m r (ps_up h i (tx_tk T n m p).2.2.2.1) (tx_tk T n m p).2.2.1 := if_pos e
theorem ps_nums_no {T : Nat → Int} {n m i : Nat} {lo hi : Int} {r : List (Nat × Int × Int)} {h : Nat → Int} {p : Nat} (e : tx_num (tx_tk T n m p) lo hi ≠ 0) : ps_nums T n m ((i, lo, hi) :: r) h p = .inl (tx_num (tx_tk T n m p) lo hi, (tx_tk T n m p).2.1) := if_neg e
/-- a name that is known -/
abbrev ps_kn (h : Nat → Int) (nm : Nat → Nat) (c : Nat) : Prop := 0 ≤ tx_find nm 0 (h 0).toNat c ∨ 0 ≤ tx_find nm 6 (h 1).toNat c ∨ 0 ≤ tx_find nm 10 (h 2).toNat c
/-- a name that is none yet: its number, the place behind it -/
def ps_fresh (T : Nat → Int) (n m : Nat) (h : Nat → Int) (nm : Nat → Nat) (p : Nat) : (Nat × Nat) ⊕ (Nat × Nat) := if tx_isN (tx_tk T n m p) then (if ps_kn h nm (tx_tk T n m p).2.2.2.2 then .inl (3, (tx_tk T n m p).2.1) else .inr ((tx_tk T n m p).2.2.2.2, (tx_tk T n m p).2.2.1)) else .inl (1, (tx_tk T n m p).2.1)
/-- whose name the token is, of k from b on -/
def ps_look (T : Nat → Int) (n m : Nat) (nm : Nat → Nat) (b k p : Nat) : (Nat × Nat) ⊕ Int := if tx_isN (tx_tk T n m p) then (if 0 ≤ tx_find nm b k (tx_tk T n m p).2.2.2.2 then .inr (tx_find nm b k (tx_tk T n m p).2.2.2.2) else .inl (3, (tx_tk T n m p).2.1)) else .inl (1, (tx_tk T n m p).2.1)
def ps_bt (s i : Int32) : Int32 := (s >>> (i &&& 31)) &&& (Int32.ofInt 1)
def ps_or (s i : Int32) : Int32 := s ||| ((Int32.ofInt 1) <<< (i &&& 31))
abbrev ps_sg (T : Nat → Int) (n m p : Nat) : Prop := (tx_tk T n m p).1 = 3 ∧ (tx_tk T n m p).2.2.2.1 = 59
/-- the persons of a meeting, as bits -/
def ps_mt (T : Nat → Int) (n m : Nat) (nm : Nat → Nat) (k : Nat) : Nat → Int32 → Nat → (Nat × Nat) ⊕ (Int32 × Nat)
  | 0, _, _ => .inl (0, 0)
  | f + 1, s, p => if s ≠ 0 ∧ ps_sg T n m p then .inr (s, p) else match ps_look T n m nm 0 k p with
    | .inl e => .inl e
    | .inr i => if ps_bt s (Int32.ofInt i) = 0 then ps_mt T n m nm k f (ps_or s (Int32.ofInt i)) (tx_tk T n m p).2.2.1 else .inl (3, (tx_tk T n m p).2.1)
/-- such a debt stands -/
abbrev ps_db (h : Nat → Int) (a b : Int) : Prop := ∃ i, i < (h 3).toNat ∧ h (39 + i) = a ∧ h (49 + i) = b
abbrev ps_St : Type := (Nat → Int) × (Nat → Nat) × Int × Int × Nat
abbrev ps_R : Type := (Nat × Nat) ⊕ ps_St
abbrev ps_wd (t : Nat × Nat × Nat × Int × Nat) (k : Nat) : Prop := t.1 = 1 ∧ t.2.2.2.2 = tx_rw.getD k 0
/-- what was read goes on with numbers, then a count grows -/
def ps_end (nm : Nat → Nat) (a b : Int) (c : Nat) (v : Int) (r : (Nat × Nat) ⊕ ((Nat → Int) × Nat)) : ps_R := match r with
  | .inl e => .inl e
  | .inr z => .inr (ps_up z.1 c v, nm, a, b, z.2)
def ps_span (T : Nat → Int) (n m : Nat) (h : Nat → Int) (nm : Nat → Nat) (a b : Int) (p : Nat) : ps_R := if a = 0 then (match ps_nums T n m [(4, 1, 20)] h (tx_tk T n m p).2.2.1 with
  | .inl e => .inl e
  | .inr z => .inr (z.1, nm, 1, b, z.2)) else .inl (3, (tx_tk T n m p).2.1)
def ps_wint (T : Nat → Int) (n m : Nat) (h : Nat → Int) (nm : Nat → Nat) (a b : Int) (p : Nat) : ps_R := if b = 0 then (match ps_nums T n m [(5, 0, 399), (6, 1, 200)] h (tx_tk T n m p).2.2.1 with
  | .inl e => .inl e
  | .inr z => .inr (z.1, nm, a, 1, z.2)) else .inl (3, (tx_tk T n m p).2.1)
def ps_pers (T : Nat → Int) (n m : Nat) (h : Nat → Int) (nm : Nat → Nat) (a b : Int) (p : Nat) : ps_R := if h 0 < 6 then (match ps_fresh T n m h nm (tx_tk T n m p).2.2.1 with
  | .inl e => .inl e
  | .inr c => ps_end (ps_un nm (h 0).toNat c.1) a b 0 (h 0 + 1) (ps_nums T n m [(7 + (h 0).toNat, 0, 9), (13 + (h 0).toNat, 0, 199), (19 + (h 0).toNat, 0, 999)] h c.2)) else .inl (4, (tx_tk T n m p).2.1)
def ps_food (T : Nat → Int) (n m : Nat) (h : Nat → Int) (nm : Nat → Nat) (a b : Int) (p : Nat) : ps_R := if h 1 < 4 then (match ps_fresh T n m h nm (tx_tk T n m p).2.2.1 with
  | .inl e => .inl e
  | .inr c => ps_end (ps_un nm (6 + (h 1).toNat) c.1) a b 1 (h 1 + 1) (ps_nums T n m [(25 + (h 1).toNat, 1, 60), (29 + (h 1).toNat, 0, 5)] h c.2)) else .inl (4, (tx_tk T n m p).2.1)
def ps_meet (T : Nat → Int) (n m : Nat) (h : Nat → Int) (nm : Nat → Nat) (a b : Int) (p : Nat) : ps_R := if h 2 < 6 then (match ps_fresh T n m h nm (tx_tk T n m p).2.2.1 with
  | .inl e => .inl e
  | .inr c => (match ps_mt T n m nm (h 0).toNat 7 0 c.2 with
    | .inl e => .inl e
    | .inr z => .inr (ps_up (ps_up h (33 + (h 2).toNat) z.1.toInt) 2 (h 2 + 1), ps_un nm (10 + (h 2).toNat) c.1, a, b, z.2))) else .inl (4, (tx_tk T n m p).2.1)
def ps_debt (T : Nat → Int) (n m : Nat) (h : Nat → Int) (nm : Nat → Nat) (a b : Int) (p : Nat) : ps_R := if h 3 < 10 then (match ps_look T n m nm 0 (h 0).toNat (tx_tk T n m p).2.2.1 with
  | .inl e => .inl e
  | .inr u => (match ps_look T n m nm 0 (h 0).toNat (tx_tk T n m (tx_tk T n m p).2.2.1).2.2.1 with
    | .inl e => .inl e
    | .inr v => if v = u ∨ ps_db h u v then .inl (3, (tx_tk T n m (tx_tk T n m (tx_tk T n m p).2.2.1).2.2.1).2.1) else ps_end nm a b 3 (h 3 + 1) (ps_nums T n m [(59 + (h 3).toNat, 1, 250), (69 + (h 3).toNat, 0, 199)] (ps_up (ps_up h (39 + (h 3).toNat) u) (49 + (h 3).toNat) v) (tx_tk T n m (tx_tk T n m (tx_tk T n m p).2.2.1).2.2.1).2.2.1))) else .inl (4, (tx_tk T n m p).2.1)
/-- a line -/
def ps_line (T : Nat → Int) (n m : Nat) (h : Nat → Int) (nm : Nat → Nat) (a b : Int) (p : Nat) : ps_R :=
  if ps_wd (tx_tk T n m p) 0 then ps_span T n m h nm a b p
  else if ps_wd (tx_tk T n m p) 1 then ps_wint T n m h nm a b p
  else if ps_wd (tx_tk T n m p) 2 then ps_pers T n m h nm a b p
  else if ps_wd (tx_tk T n m p) 3 then ps_food T n m h nm a b p
  else if ps_wd (tx_tk T n m p) 4 then ps_meet T n m h nm a b p
  else if ps_wd (tx_tk T n m p) 5 then ps_debt T n m h nm a b p
  else .inl (1, (tx_tk T n m p).2.1)
/-- a whole text: the lines, or the fault -/
def ps_text (T : Nat → Int) (n m : Nat) : Nat → Nat → ps_St → (Nat × Nat) ⊕ (Nat × (Nat → Int) × (Nat → Nat))
  | 0, _, _ => .inl (0, 0)
  | f + 1, l, s => if (tx_tk T n m s.2.2.2.2).1 = 0 then .inr (l, s.1, s.2.1) else match ps_line T n m s.1 s.2.1 s.2.2.1 s.2.2.2.1 s.2.2.2.2 with
    | .inl e => .inl e
    | .inr s' => if ps_sg T n m s'.2.2.2.2 then ps_text T n m f (l + 1) (s'.1, s'.2.1, s'.2.2.1, s'.2.2.2.1, (tx_tk T n m s'.2.2.2.2).2.2.1) else .inl (1, (tx_tk T n m s'.2.2.2.2).2.1)
def ps_h0 : Nat → Int := fun j => if j = 4 then 10 else 0
/-- the whole text from its start -/
def ps_all (T : Nat → Int) (n : Nat) : (Nat × Nat) ⊕ (Nat × (Nat → Int) × (Nat → Nat)) := ps_text T n 900 901 0 (ps_h0, fun _ => 0, 0, 0, 0)

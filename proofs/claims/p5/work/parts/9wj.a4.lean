/-! ### how a line goes, by cases -/
section PSL
variable {T : Nat → Int} {n m : Nat} {h : Nat → Int} {nm : Nat → Nat} {a b : Int} {p : Nat}
theorem ps_pers_f (hk : ¬ h 0 < 6) : ps_pers T n m h nm a b p = .inl (4, (tx_tk T n m p).2.1) := if_neg hk
theorem ps_pers_e {e : Nat × Nat} (hk : h 0 < 6) (hf : ps_fresh T n m h nm (tx_tk T n m p).2.2.1 = .inl e) : ps_pers T n m h nm a b p = .inl e := by
  unfold ps_pers
  rw [if_pos hk]
  simp only [hf]
theorem ps_pers_n {c q : Nat} (hk : h 0 < 6) (hf : ps_fresh T n m h nm (tx_tk T n m p).2.2.1 = .inr (c, q)) : ps_pers T n m h nm a b p = ps_end (ps_un nm (h 0).toNat c) a b 0 (h 0 + 1) (ps_nums T n m [(7 + (h 0).toNat, 0, 9), (13 + (h 0).toNat, 0, 199), (19 + (h 0).toNat, 0, 999)] h q) := by
  unfold ps_pers
  rw [if_pos hk]
  simp only [hf]
theorem ps_food_f (hk : ¬ h 1 < 4) : ps_food T n m h nm a b p = .inl (4, (tx_tk T n m p).2.1) := if_neg hk
theorem ps_food_e {e : Nat × Nat} (hk : h 1 < 4) (hf : ps_fresh T n m h nm (tx_tk T n m p).2.2.1 = .inl e) : ps_food T n m h nm a b p = .inl e := by
  unfold ps_food
  rw [if_pos hk]
  simp only [hf]
theorem ps_food_n {c q : Nat} (hk : h 1 < 4) (hf : ps_fresh T n m h nm (tx_tk T n m p).2.2.1 = .inr (c, q)) : ps_food T n m h nm a b p = ps_end (ps_un nm (6 + (h 1).toNat) c) a b 1 (h 1 + 1) (ps_nums T n m [(25 + (h 1).toNat, 1, 60), (29 + (h 1).toNat, 0, 5)] h q) := by
  unfold ps_food
  rw [if_pos hk]
  simp only [hf]
theorem ps_meet_f (hk : ¬ h 2 < 6) : ps_meet T n m h nm a b p = .inl (4, (tx_tk T n m p).2.1) := if_neg hk
theorem ps_meet_e {e : Nat × Nat} (hk : h 2 < 6) (hf : ps_fresh T n m h nm (tx_tk T n m p).2.2.1 = .inl e) : ps_meet T n m h nm a b p = .inl e := by
  unfold ps_meet
  rw [if_pos hk]
  simp only [hf]
theorem ps_meet_x {c q : Nat} {e : Nat × Nat} (hk : h 2 < 6) (hf : ps_fresh T n m h nm (tx_tk T n m p).2.2.1 = .inr (c, q)) (hs : ps_mt T n m nm (h 0).toNat 7 0 q = .inl e) : ps_meet T n m h nm a b p = .inl e := by
  unfold ps_meet
  rw [if_pos hk]
  simp only [hf, hs]
theorem ps_meet_n {c q r : Nat} {s : Int32} (hk : h 2 < 6) (hf : ps_fresh T n m h nm (tx_tk T n m p).2.2.1 = .inr (c, q)) (hs : ps_mt T n m nm (h 0).toNat 7 0 q = .inr (s, r)) : ps_meet T n m h nm a b p = .inr (ps_up (ps_up h (33 + (h 2).toNat) s.toInt) 2 (h 2 + 1), ps_un nm (10 + (h 2).toNat) c, a, b, r) := by
  unfold ps_meet
  rw [if_pos hk]
  simp only [hf, hs]
theorem ps_debt_f (hk : ¬ h 3 < 10) : ps_debt T n m h nm a b p = .inl (4, (tx_tk T n m p).2.1) := if_neg hk
theorem ps_debt_e {e : Nat × Nat} (hk : h 3 < 10) (hf : ps_look T n m nm 0 (h 0).toNat (tx_tk T n m p).2.2.1 = .inl e) : ps_debt T n m h nm a b p = .inl e := by
  unfold ps_debt
  rw [if_pos hk]
  simp only [hf]
theorem ps_debt_x {e : Nat × Nat} {u : Int} (hk : h 3 < 10) (hf : ps_look T n m nm 0 (h 0).toNat (tx_tk T n m p).2.2.1 = .inr u) (hg : ps_look T n m nm 0 (h 0).toNat (tx_tk T n m (tx_tk T n m p).2.2.1).2.2.1 = .inl e) : ps_debt T n m h nm a b p = .inl e := by
  unfold ps_debt
  rw [if_pos hk]
  simp only [hf, hg]
theorem ps_debt_y {u v : Int} (hk : h 3 < 10) (hf : ps_look T n m nm 0 (h 0).toNat (tx_tk T n m p).2.2.1 = .inr u) (hg : ps_look T n m nm 0 (h 0).toNat (tx_tk T n m (tx_tk T n m p).2.2.1).2.2.1 = .inr v) (hd : v = u ∨ ps_db h u v) : ps_debt T n m h nm a b p = .inl (3, (tx_tk T n m (tx_tk T n m (tx_tk T n m p).2.2.1).2.2.1).2.1) := by
  unfold ps_debt
  rw [if_pos hk]
  simp only [hf, hg]
  exact if_pos hd
theorem ps_debt_n {u v : Int} (hk : h 3 < 10) (hf : ps_look T n m nm 0 (h 0).toNat (tx_tk T n m p).2.2.1 = .inr u) (hg : ps_look T n m nm 0 (h 0).toNat (tx_tk T n m (tx_tk T n m p).2.2.1).2.2.1 = .inr v) (hd : ¬ (v = u ∨ ps_db h u v)) : ps_debt T n m h nm a b p = ps_end nm a b 3 (h 3 + 1) (ps_nums T n m [(59 + (h 3).toNat, 1, 250), (69 + (h 3).toNat, 0, 199)] (ps_up (ps_up h (39 + (h 3).toNat) u) (49 + (h 3).toNat) v) (tx_tk T n m (tx_tk T n m (tx_tk T n m p).2.2.1).2.2.1).2.2.1) := by
  unfold ps_debt
  rw [if_pos hk]
  simp only [hf, hg]
  exact if_neg hd
theorem ps_span_f (hk : ¬ a = 0) : ps_span T n m h nm a b p = .inl (3, (tx_tk T n m p).2.1) := if_neg hk
theorem ps_span_e {e : Nat × Nat} (hk : a = 0) (hf : ps_nums T n m [(4, 1, 20)] h (tx_tk T n m p).2.2.1 = .inl e) : ps_span T n m h nm a b p = .inl e := by
  unfold ps_span
  rw [if_pos hk]
  simp only [hf]
theorem ps_span_n {z : (Nat → Int) × Nat} (hk : a = 0) (hf : ps_nums T n m [(4, 1, 20)] h (tx_tk T n m p).2.2.1 = .inr z) : ps_span T n m h nm a b p = .inr (z.1, nm, 1, b, z.2) := by
  unfold ps_span
  rw [if_pos hk]
  simp only [hf]
theorem ps_wint_f (hk : ¬ b = 0) : ps_wint T n m h nm a b p = .inl (3, (tx_tk T n m p).2.1) := if_neg hk
theorem ps_wint_e {e : Nat × Nat} (hk : b = 0) (hf : ps_nums T n m [(5, 0, 399), (6, 1, 200)] h (tx_tk T n m p).2.2.1 = .inl e) : ps_wint T n m h nm a b p = .inl e := by
  unfold ps_wint
  rw [if_pos hk]
  simp only [hf]
theorem ps_wint_n {z : (Nat → Int) × Nat} (hk : b = 0) (hf : ps_nums T n m [(5, 0, 399), (6, 1, 200)] h (tx_tk T n m p).2.2.1 = .inr z) : ps_wint T n m h nm a b p = .inr (z.1, nm, a, 1, z.2) := by
  unfold ps_wint
  rw [if_pos hk]
  simp only [hf]
theorem ps_mt_end {k f : Nat} {s : Int32} (h1 : s ≠ 0) (h2 : ps_sg T n m p) : ps_mt T n m nm k (f + 1) s p = .inr (s, p) := if_pos ⟨h1, h2⟩
theorem ps_mt_e1 {k f : Nat} {s : Int32} {e : Nat × Nat} (h1 : ¬ (s ≠ 0 ∧ ps_sg T n m p)) (h2 : ps_look T n m nm 0 k p = .inl e) : ps_mt T n m nm k (f + 1) s p = .inl e := by
  unfold ps_mt
  rw [if_neg h1]
  simp only [h2]
theorem ps_mt_e2 {k f : Nat} {s : Int32} {i : Int} (h1 : ¬ (s ≠ 0 ∧ ps_sg T n m p)) (h2 : ps_look T n m nm 0 k p = .inr i) (h3 : ¬ ps_bt s (Int32.ofInt i) = 0) : ps_mt T n m nm k (f + 1) s p = .inl (3, (tx_tk T n m p).2.1) := by
  unfold ps_mt
  rw [if_neg h1]
  simp only [h2]
  exact if_neg h3
theorem ps_mt_go {k f : Nat} {s : Int32} {i : Int} (h1 : ¬ (s ≠ 0 ∧ ps_sg T n m p)) (h2 : ps_look T n m nm 0 k p = .inr i) (h3 : ps_bt s (Int32.ofInt i) = 0) : ps_mt T n m nm k (f + 1) s p = ps_mt T n m nm k f (ps_or s (Int32.ofInt i)) (tx_tk T n m p).2.2.1 := by
  rw [ps_mt, if_neg h1]
  simp only [h2]
  exact if_pos h3
theorem ps_line_0 (h1 : ps_wd (tx_tk T n m p) 0) : ps_line T n m h nm a b p = ps_span T n m h nm a b p := if_pos h1
theorem ps_rws : (List.range 22).all (fun i => (List.range 22).all (fun k => Nat.beq i k || !(Nat.beq (tx_rw.getD i 0) (tx_rw.getD k 0)))) = true := by decide +kernel
theorem ps_rw_ne (i : Nat) (hi : i < 22) (k : Nat) (hk : k < 22) (hn : i ≠ k) : tx_rw.getD i 0 ≠ tx_rw.getD k 0 := by
  have h := List.all_eq_true.mp (List.all_eq_true.mp ps_rws i (List.mem_range.mpr hi)) k (List.mem_range.mpr hk)
  simp only [Bool.or_eq_true, Bool.not_eq_true'] at h
  rcases h with h | h
  · exact absurd (Nat.eq_of_beq_eq_true h) hn
  · intro z
    rw [z, Nat.beq_refl] at h
    cases h
theorem ps_wd_ne {t : Nat × Nat × Nat × Int × Nat} {i k : Nat} (h1 : ps_wd t k) (hi : i < 22) (hk : k < 22) (hn : i ≠ k) : ¬ ps_wd t i := by
  intro h2
  exact ps_rw_ne i hi k hk hn (h2.2.symm.trans h1.2)
theorem ps_line_1 (h1 : ps_wd (tx_tk T n m p) 1) : ps_line T n m h nm a b p = ps_wint T n m h nm a b p := by
  unfold ps_line
  rw [if_neg (ps_wd_ne h1 (by omega) (by omega) (by omega)), if_pos h1]
theorem ps_line_2 (h1 : ps_wd (tx_tk T n m p) 2) : ps_line T n m h nm a b p = ps_pers T n m h nm a b p := by
  unfold ps_line
  rw [if_neg (ps_wd_ne h1 (by omega) (by omega) (by omega)), if_neg (ps_wd_ne h1 (by omega) (by omega) (by omega)), if_pos h1]
theorem ps_line_3 (h1 : ps_wd (tx_tk T n m p) 3) : ps_line T n m h nm a b p = ps_food T n m h nm a b p := by
  unfold ps_line
  rw [if_neg (ps_wd_ne h1 (by omega) (by omega) (by omega)), if_neg (ps_wd_ne h1 (by omega) (by omega) (by omega)), if_neg (ps_wd_ne h1 (by omega) (by omega) (by omega)), if_pos h1]
theorem ps_line_4 (h1 : ps_wd (tx_tk T n m p) 4) : ps_line T n m h nm a b p = ps_meet T n m h nm a b p := by
  unfold ps_line
  rw [if_neg (ps_wd_ne h1 (by omega) (by omega) (by omega)), if_neg (ps_wd_ne h1 (by omega) (by omega) (by omega)), if_neg (ps_wd_ne h1 (by omega) (by omega) (by omega)), if_neg (ps_wd_ne h1 (by omega) (by omega) (by omega)), if_pos h1]
theorem ps_line_5 (h1 : ps_wd (tx_tk T n m p) 5) : ps_line T n m h nm a b p = ps_debt T n m h nm a b p := by
  unfold ps_line
  rw [if_neg (ps_wd_ne h1 (by omega) (by omega) (by omega)), if_neg (ps_wd_ne h1 (by omega) (by omega) (by omega)), if_neg (ps_wd_ne h1 (by omega) (by omega) (by omega)), if_neg (ps_wd_ne h1 (by omega) (by omega) (by omega)), if_neg (ps_wd_ne h1 (by omega) (by omega) (by omega)), if_pos h1]
theorem ps_line_no (h1 : ∀ k, k < 6 → ¬ ps_wd (tx_tk T n m p) k) : ps_line T n m h nm a b p = .inl (1, (tx_tk T n m p).2.1) := by
  unfold ps_line
  rw [if_neg (h1 0 (by omega)), if_neg (h1 1 (by omega)), if_neg (h1 2 (by omega)), if_neg (h1 3 (by omega)), if_neg (h1 4 (by omega)), if_neg (h1 5 (by omega))]
theorem ps_text_end {f l : Nat} (h1 : (tx_tk T n m p).1 = 0) : ps_text T n m (f + 1) l (h, nm, a, b, p) = .inr (l, h, nm) := if_pos h1
theorem ps_text_e1 {f l : Nat} {e : Nat × Nat} (h1 : (tx_tk T n m p).1 ≠ 0) (h2 : ps_line T n m h nm a b p = .inl e) : ps_text T n m (f + 1) l (h, nm, a, b, p) = .inl e := by
  rw [ps_text, if_neg h1]
  simp only [h2]
theorem ps_text_e2 {f l : Nat} {s : ps_St} (h1 : (tx_tk T n m p).1 ≠ 0) (h2 : ps_line T n m h nm a b p = .inr s) (h3 : ¬ ps_sg T n m s.2.2.2.2) : ps_text T n m (f + 1) l (h, nm, a, b, p) = .inl (1, (tx_tk T n m s.2.2.2.2).2.1) := by
  rw [ps_text, if_neg h1]
  simp only [h2]
  exact if_neg h3
theorem ps_text_go {f l : Nat} {s : ps_St} (h1 : (tx_tk T n m p).1 ≠ 0) (h2 : ps_line T n m h nm a b p = .inr s) (h3 : ps_sg T n m s.2.2.2.2) : ps_text T n m (f + 1) l (h, nm, a, b, p) = ps_text T n m f (l + 1) (s.1, s.2.1, s.2.2.1, s.2.2.2.1, (tx_tk T n m s.2.2.2.2).2.2.1) := by
  rw [ps_text, if_neg h1]
  simp only [h2]
  exact if_pos h3
end PSL

/-! ### sets of six -/
def ps_pc (s : Int32) : Nat := (List.range 6).foldl (fun a i => if ps_bt s (Int32.ofNat i) = 0 then a else a + 1) 0
def ps_ck (a i : Nat) : Bool := Nat.ble (ps_pc (Int32.ofNat a)) 6 && ((!(decide (ps_bt (Int32.ofNat a) (Int32.ofNat i) = 0)) || Nat.beq (ps_pc (ps_or (Int32.ofNat a) (Int32.ofNat i))) (ps_pc (Int32.ofNat a) + 1)) && (decide (0 ≤ (ps_or (Int32.ofNat a) (Int32.ofNat i)).toInt) && (decide ((ps_or (Int32.ofNat a) (Int32.ofNat i)).toInt ≤ 63) && (!(decide (ps_or (Int32.ofNat a) (Int32.ofNat i) = 0)) && (decide (ps_bt (Int32.ofNat a) (Int32.ofNat i) = 0) || decide ((ps_bt (Int32.ofNat a) (Int32.ofNat i)).toInt = 1))))))
theorem ps_cks : (List.range 64).all (fun a => (List.range 6).all (fun i => ps_ck a i)) = true := by decide +kernel
theorem ps_pcs (a : Nat) (ha : a < 64) (i : Nat) (hi : i < 6) : ps_pc (Int32.ofNat a) ≤ 6 ∧ (ps_bt (Int32.ofNat a) (Int32.ofNat i) = 0 → ps_pc (ps_or (Int32.ofNat a) (Int32.ofNat i)) = ps_pc (Int32.ofNat a) + 1) ∧ 0 ≤ (ps_or (Int32.ofNat a) (Int32.ofNat i)).toInt ∧ (ps_or (Int32.ofNat a) (Int32.ofNat i)).toInt ≤ 63 ∧ ps_or (Int32.ofNat a) (Int32.ofNat i) ≠ 0 ∧ (ps_bt (Int32.ofNat a) (Int32.ofNat i) = 0 ∨ (ps_bt (Int32.ofNat a) (Int32.ofNat i)).toInt = 1) := by
  have h := List.all_eq_true.mp (List.all_eq_true.mp ps_cks a (List.mem_range.mpr ha)) i (List.mem_range.mpr hi)
  unfold ps_ck at h
  simp only [Bool.and_eq_true, Bool.or_eq_true, Bool.not_eq_true', decide_eq_true_eq, decide_eq_false_iff_not] at h
  obtain ⟨h1, h2, h3, h4, h5, h6⟩ := h
  exact ⟨Nat.le_of_ble_eq_true h1, fun z => h2.elim (fun y => absurd z y) (fun y => Nat.eq_of_beq_eq_true y), h3, h4, h5, h6⟩
theorem ps_ofNat {s : Int32} (h0 : 0 ≤ s.toInt) : s = Int32.ofNat s.toInt.toNat := Int32.toInt_inj.mp (by have h1 := s.toInt_lt; rw [Int32.toInt_ofNat_of_lt (by omega)]; omega)
theorem ps_ofInt {x : Int32} {i : Int} (h : x.toInt = i) : x = Int32.ofInt i := by
  rw [← h]
  exact (Int32.ofInt_toInt x).symm
theorem ps_set {s x : Int32} (h0 : 0 ≤ s.toInt) (h1 : s.toInt ≤ 63) (h2 : 0 ≤ x.toInt) (h3 : x.toInt < 6) : ps_pc s ≤ 6 ∧ (ps_bt s x = 0 → ps_pc (ps_or s x) = ps_pc s + 1) ∧ 0 ≤ (ps_or s x).toInt ∧ (ps_or s x).toInt ≤ 63 ∧ ps_or s x ≠ 0 ∧ (ps_bt s x = 0 ∨ (ps_bt s x).toInt = 1) := by
  have g := ps_pcs s.toInt.toNat (by omega) x.toInt.toNat (by omega)
  rw [← ps_ofNat h0, ← ps_ofNat h2] at g
  exact g

/-- the places that count -/
def ps_lv (h : Nat → Int) (j : Nat) : Prop := j < 7 ∨ (7 ≤ j ∧ j < 13 ∧ (j : Int) - 7 < h 0) ∨ (13 ≤ j ∧ j < 19 ∧ (j : Int) - 13 < h 0) ∨ (19 ≤ j ∧ j < 25 ∧ (j : Int) - 19 < h 0) ∨ (25 ≤ j ∧ j < 29 ∧ (j : Int) - 25 < h 1) ∨ (29 ≤ j ∧ j < 33 ∧ (j : Int) - 29 < h 1) ∨ (33 ≤ j ∧ j < 39 ∧ (j : Int) - 33 < h 2) ∨ (39 ≤ j ∧ j < 49 ∧ (j : Int) - 39 < h 3) ∨ (49 ≤ j ∧ j < 59 ∧ (j : Int) - 49 < h 3) ∨ (59 ≤ j ∧ j < 69 ∧ (j : Int) - 59 < h 3) ∨ (69 ≤ j ∧ j < 79 ∧ (j : Int) - 69 < h 3)
def ps_ln (h : Nat → Int) (j : Nat) : Prop := (j < 6 ∧ (j : Int) < h 0) ∨ (6 ≤ j ∧ j < 10 ∧ (j : Int) - 6 < h 1) ∨ (10 ≤ j ∧ j < 16 ∧ (j : Int) - 10 < h 2)
def ps_bd (h : Nat → Int) : Prop := 0 ≤ h 0 ∧ h 0 ≤ 6 ∧ 0 ≤ h 1 ∧ h 1 ≤ 4 ∧ 0 ≤ h 2 ∧ h 2 ≤ 6 ∧ 0 ≤ h 3 ∧ h 3 ≤ 10
/-- numbers f and names g (as that side holds them) are those of h and nm, as far as they count -/
def ps_Q (F : Nat → Nat) (f : Nat → Int) (g : Nat → Int64) (h : Nat → Int) (nm : Nat → Nat) : Prop := (∀ j, ps_lv h j → f j = h j) ∧ (∀ j, ps_ln h j → g j = Int64.ofNat (F (nm j)) ∧ nm j < 32 ^ 7) ∧ ps_bd h
theorem ps_Q_c {F : Nat → Nat} {f : Nat → Int} {g : Nat → Int64} {h : Nat → Int} {nm : Nat → Nat} (hQ : ps_Q F f g h nm) : f 0 = h 0 ∧ f 1 = h 1 ∧ f 2 = h 2 ∧ f 3 = h 3 ∧ f 4 = h 4 := ⟨hQ.1 0 (.inl (by omega)), hQ.1 1 (.inl (by omega)), hQ.1 2 (.inl (by omega)), hQ.1 3 (.inl (by omega)), hQ.1 4 (.inl (by omega))⟩
theorem ps_up_ag {f h : Nat → Int} {i j : Nat} {v : Int} (e : j ≠ i → f j = h j) : ps_up f i v j = ps_up h i v j := by
  by_cases z : j = i
  · rw [z, ps_up_self, ps_up_self]
  · rw [ps_up_ne z, ps_up_ne z, e z]
theorem ps_Q_span {F : Nat → Nat} {f : Nat → Int} {g : Nat → Int64} {h : Nat → Int} {nm : Nat → Nat} {x : Int} (hQ : ps_Q F f g h nm) : ps_Q F (ps_up f (4) x) g (ps_up h (4) x) nm := by
  obtain ⟨h1, h2, h3⟩ := hQ
  unfold ps_bd at h3
  have e0 : (ps_up h (4) x) 0 = h 0 := ps_up_ne (show 0 ≠ 4 by omega)
  have e1 : (ps_up h (4) x) 1 = h 1 := ps_up_ne (show 1 ≠ 4 by omega)
  have e2 : (ps_up h (4) x) 2 = h 2 := ps_up_ne (show 2 ≠ 4 by omega)
  have e3 : (ps_up h (4) x) 3 = h 3 := ps_up_ne (show 3 ≠ 4 by omega)
  refine ⟨fun j hj => ?_, fun j hj => ?_, ?_⟩
  · unfold ps_lv at hj
    rw [e0, e1, e2, e3] at hj
    rcases hj with hj | hj | hj | hj | hj | hj | hj | hj | hj | hj | hj
    · exact ps_up_ag (fun z0 => h1 j (.inl (by omega)))
    · exact ps_up_ag (fun z0 => h1 j (.inr (.inl ⟨by omega, by omega, by omega⟩)))
    · exact ps_up_ag (fun z0 => h1 j (.inr (.inr (.inl ⟨by omega, by omega, by omega⟩))))
    · exact ps_up_ag (fun z0 => h1 j (.inr (.inr (.inr (.inl ⟨by omega, by omega, by omega⟩)))))
    · exact ps_up_ag (fun z0 => h1 j (.inr (.inr (.inr (.inr (.inl ⟨by omega, by omega, by omega⟩))))))
    · exact ps_up_ag (fun z0 => h1 j (.inr (.inr (.inr (.inr (.inr (.inl ⟨by omega, by omega, by omega⟩)))))))
    · exact ps_up_ag (fun z0 => h1 j (.inr (.inr (.inr (.inr (.inr (.inr (.inl ⟨by omega, by omega, by omega⟩))))))))
    · exact ps_up_ag (fun z0 => h1 j (.inr (.inr (.inr (.inr (.inr (.inr (.inr (.inl ⟨by omega, by omega, by omega⟩)))))))))
    · exact ps_up_ag (fun z0 => h1 j (.inr (.inr (.inr (.inr (.inr (.inr (.inr (.inr (.inl ⟨by omega, by omega, by omega⟩))))))))))
    · exact ps_up_ag (fun z0 => h1 j (.inr (.inr (.inr (.inr (.inr (.inr (.inr (.inr (.inr (.inl ⟨by omega, by omega, by omega⟩)))))))))))
    · exact ps_up_ag (fun z0 => h1 j (.inr (.inr (.inr (.inr (.inr (.inr (.inr (.inr (.inr (.inr (⟨by omega, by omega, by omega⟩))))))))))))
  · unfold ps_ln at hj
    rw [e0, e1, e2] at hj
    exact h2 j hj
  · unfold ps_bd
    rw [e0, e1, e2, e3]
    omega
theorem ps_Q_wint {F : Nat → Nat} {f : Nat → Int} {g : Nat → Int64} {h : Nat → Int} {nm : Nat → Nat} {x : Int} {y : Int} (hQ : ps_Q F f g h nm) : ps_Q F (ps_up (ps_up f (5) x) (6) y) g (ps_up (ps_up h (5) x) (6) y) nm := by
  obtain ⟨h1, h2, h3⟩ := hQ
  unfold ps_bd at h3
  have e0 : (ps_up (ps_up h (5) x) (6) y) 0 = h 0 := (ps_up_ne (show 0 ≠ 6 by omega)).trans (ps_up_ne (show 0 ≠ 5 by omega))
  have e1 : (ps_up (ps_up h (5) x) (6) y) 1 = h 1 := (ps_up_ne (show 1 ≠ 6 by omega)).trans (ps_up_ne (show 1 ≠ 5 by omega))
  have e2 : (ps_up (ps_up h (5) x) (6) y) 2 = h 2 := (ps_up_ne (show 2 ≠ 6 by omega)).trans (ps_up_ne (show 2 ≠ 5 by omega))
  have e3 : (ps_up (ps_up h (5) x) (6) y) 3 = h 3 := (ps_up_ne (show 3 ≠ 6 by omega)).trans (ps_up_ne (show 3 ≠ 5 by omega))
  refine ⟨fun j hj => ?_, fun j hj => ?_, ?_⟩
  · unfold ps_lv at hj
    rw [e0, e1, e2, e3] at hj
    rcases hj with hj | hj | hj | hj | hj | hj | hj | hj | hj | hj | hj
    · exact ps_up_ag (fun z1 => ps_up_ag (fun z0 => h1 j (.inl (by omega))))
    · exact ps_up_ag (fun z1 => ps_up_ag (fun z0 => h1 j (.inr (.inl ⟨by omega, by omega, by omega⟩))))
    · exact ps_up_ag (fun z1 => ps_up_ag (fun z0 => h1 j (.inr (.inr (.inl ⟨by omega, by omega, by omega⟩)))))
    · exact ps_up_ag (fun z1 => ps_up_ag (fun z0 => h1 j (.inr (.inr (.inr (.inl ⟨by omega, by omega, by omega⟩))))))
    · exact ps_up_ag (fun z1 => ps_up_ag (fun z0 => h1 j (.inr (.inr (.inr (.inr (.inl ⟨by omega, by omega, by omega⟩)))))))
    · exact ps_up_ag (fun z1 => ps_up_ag (fun z0 => h1 j (.inr (.inr (.inr (.inr (.inr (.inl ⟨by omega, by omega, by omega⟩))))))))
    · exact ps_up_ag (fun z1 => ps_up_ag (fun z0 => h1 j (.inr (.inr (.inr (.inr (.inr (.inr (.inl ⟨by omega, by omega, by omega⟩)))))))))
    · exact ps_up_ag (fun z1 => ps_up_ag (fun z0 => h1 j (.inr (.inr (.inr (.inr (.inr (.inr (.inr (.inl ⟨by omega, by omega, by omega⟩))))))))))
    · exact ps_up_ag (fun z1 => ps_up_ag (fun z0 => h1 j (.inr (.inr (.inr (.inr (.inr (.inr (.inr (.inr (.inl ⟨by omega, by omega, by omega⟩)))))))))))
    · exact ps_up_ag (fun z1 => ps_up_ag (fun z0 => h1 j (.inr (.inr (.inr (.inr (.inr (.inr (.inr (.inr (.inr (.inl ⟨by omega, by omega, by omega⟩))))))))))))
    · exact ps_up_ag (fun z1 => ps_up_ag (fun z0 => h1 j (.inr (.inr (.inr (.inr (.inr (.inr (.inr (.inr (.inr (.inr (⟨by omega, by omega, by omega⟩)))))))))))))
  · unfold ps_ln at hj
    rw [e0, e1, e2] at hj
    exact h2 j hj
  · unfold ps_bd
    rw [e0, e1, e2, e3]
    omega
theorem ps_Q_pers {F : Nat → Nat} {f : Nat → Int} {g : Nat → Int64} {h : Nat → Int} {nm : Nat → Nat} {x : Int} {y : Int} {z : Int} {c : Nat} (hc : c < 32 ^ 7) (hQ : ps_Q F f g h nm) (hk : h 0 < 6) : ps_Q F (ps_up (ps_up (ps_up (ps_up f (7 + (h 0).toNat) x) (13 + (h 0).toNat) y) (19 + (h 0).toNat) z) (0) (h 0 + 1)) (ps_un g ((h 0).toNat) (Int64.ofNat (F c))) (ps_up (ps_up (ps_up (ps_up h (7 + (h 0).toNat) x) (13 + (h 0).toNat) y) (19 + (h 0).toNat) z) (0) (h 0 + 1)) (ps_un nm ((h 0).toNat) c) := by
  obtain ⟨h1, h2, h3⟩ := hQ
  unfold ps_bd at h3
  have e0 : (ps_up (ps_up (ps_up (ps_up h (7 + (h 0).toNat) x) (13 + (h 0).toNat) y) (19 + (h 0).toNat) z) (0) (h 0 + 1)) 0 = (h 0 + 1) := ps_up_self
  have e1 : (ps_up (ps_up (ps_up (ps_up h (7 + (h 0).toNat) x) (13 + (h 0).toNat) y) (19 + (h 0).toNat) z) (0) (h 0 + 1)) 1 = h 1 := (ps_up_ne (show 1 ≠ 0 by omega)).trans ((ps_up_ne (show 1 ≠ 19 + (h 0).toNat by omega)).trans ((ps_up_ne (show 1 ≠ 13 + (h 0).toNat by omega)).trans (ps_up_ne (show 1 ≠ 7 + (h 0).toNat by omega))))
  have e2 : (ps_up (ps_up (ps_up (ps_up h (7 + (h 0).toNat) x) (13 + (h 0).toNat) y) (19 + (h 0).toNat) z) (0) (h 0 + 1)) 2 = h 2 := (ps_up_ne (show 2 ≠ 0 by omega)).trans ((ps_up_ne (show 2 ≠ 19 + (h 0).toNat by omega)).trans ((ps_up_ne (show 2 ≠ 13 + (h 0).toNat by omega)).trans (ps_up_ne (show 2 ≠ 7 + (h 0).toNat by omega))))
  have e3 : (ps_up (ps_up (ps_up (ps_up h (7 + (h 0).toNat) x) (13 + (h 0).toNat) y) (19 + (h 0).toNat) z) (0) (h 0 + 1)) 3 = h 3 := (ps_up_ne (show 3 ≠ 0 by omega)).trans ((ps_up_ne (show 3 ≠ 19 + (h 0).toNat by omega)).trans ((ps_up_ne (show 3 ≠ 13 + (h 0).toNat by omega)).trans (ps_up_ne (show 3 ≠ 7 + (h 0).toNat by omega))))
  refine ⟨fun j hj => ?_, fun j hj => ?_, ?_⟩
  · unfold ps_lv at hj
    rw [e0, e1, e2, e3] at hj
    rcases hj with hj | hj | hj | hj | hj | hj | hj | hj | hj | hj | hj
    · exact ps_up_ag (fun z3 => ps_up_ag (fun z2 => ps_up_ag (fun z1 => ps_up_ag (fun z0 => h1 j (.inl (by omega))))))
    · exact ps_up_ag (fun z3 => ps_up_ag (fun z2 => ps_up_ag (fun z1 => ps_up_ag (fun z0 => h1 j (.inr (.inl ⟨by omega, by omega, by omega⟩))))))
    · exact ps_up_ag (fun z3 => ps_up_ag (fun z2 => ps_up_ag (fun z1 => ps_up_ag (fun z0 => h1 j (.inr (.inr (.inl ⟨by omega, by omega, by omega⟩)))))))
    · exact ps_up_ag (fun z3 => ps_up_ag (fun z2 => ps_up_ag (fun z1 => ps_up_ag (fun z0 => h1 j (.inr (.inr (.inr (.inl ⟨by omega, by omega, by omega⟩))))))))
    · exact ps_up_ag (fun z3 => ps_up_ag (fun z2 => ps_up_ag (fun z1 => ps_up_ag (fun z0 => h1 j (.inr (.inr (.inr (.inr (.inl ⟨by omega, by omega, by omega⟩)))))))))
    · exact ps_up_ag (fun z3 => ps_up_ag (fun z2 => ps_up_ag (fun z1 => ps_up_ag (fun z0 => h1 j (.inr (.inr (.inr (.inr (.inr (.inl ⟨by omega, by omega, by omega⟩))))))))))
    · exact ps_up_ag (fun z3 => ps_up_ag (fun z2 => ps_up_ag (fun z1 => ps_up_ag (fun z0 => h1 j (.inr (.inr (.inr (.inr (.inr (.inr (.inl ⟨by omega, by omega, by omega⟩)))))))))))
    · exact ps_up_ag (fun z3 => ps_up_ag (fun z2 => ps_up_ag (fun z1 => ps_up_ag (fun z0 => h1 j (.inr (.inr (.inr (.inr (.inr (.inr (.inr (.inl ⟨by omega, by omega, by omega⟩))))))))))))
    · exact ps_up_ag (fun z3 => ps_up_ag (fun z2 => ps_up_ag (fun z1 => ps_up_ag (fun z0 => h1 j (.inr (.inr (.inr (.inr (.inr (.inr (.inr (.inr (.inl ⟨by omega, by omega, by omega⟩)))))))))))))
    · exact ps_up_ag (fun z3 => ps_up_ag (fun z2 => ps_up_ag (fun z1 => ps_up_ag (fun z0 => h1 j (.inr (.inr (.inr (.inr (.inr (.inr (.inr (.inr (.inr (.inl ⟨by omega, by omega, by omega⟩))))))))))))))
    · exact ps_up_ag (fun z3 => ps_up_ag (fun z2 => ps_up_ag (fun z1 => ps_up_ag (fun z0 => h1 j (.inr (.inr (.inr (.inr (.inr (.inr (.inr (.inr (.inr (.inr (⟨by omega, by omega, by omega⟩)))))))))))))))
  · unfold ps_ln at hj
    rw [e0, e1, e2] at hj
    by_cases z : j = (h 0).toNat
    · rw [z, ps_un_self, ps_un_self]
      exact ⟨rfl, hc⟩
    · rw [ps_un_ne z, ps_un_ne z]
      rcases hj with hj | hj | hj
      · exact h2 j (.inl ⟨by omega, by omega⟩)
      · exact h2 j (.inr (.inl ⟨by omega, by omega, by omega⟩))
      · exact h2 j (.inr (.inr ⟨by omega, by omega, by omega⟩))
  · unfold ps_bd
    rw [e0, e1, e2, e3]
    omega
theorem ps_Q_food {F : Nat → Nat} {f : Nat → Int} {g : Nat → Int64} {h : Nat → Int} {nm : Nat → Nat} {x : Int} {y : Int} {c : Nat} (hc : c < 32 ^ 7) (hQ : ps_Q F f g h nm) (hk : h 1 < 4) : ps_Q F (ps_up (ps_up (ps_up f (25 + (h 1).toNat) x) (29 + (h 1).toNat) y) (1) (h 1 + 1)) (ps_un g (6 + (h 1).toNat) (Int64.ofNat (F c))) (ps_up (ps_up (ps_up h (25 + (h 1).toNat) x) (29 + (h 1).toNat) y) (1) (h 1 + 1)) (ps_un nm (6 + (h 1).toNat) c) := by
  obtain ⟨h1, h2, h3⟩ := hQ
  unfold ps_bd at h3
  have e0 : (ps_up (ps_up (ps_up h (25 + (h 1).toNat) x) (29 + (h 1).toNat) y) (1) (h 1 + 1)) 0 = h 0 := (ps_up_ne (show 0 ≠ 1 by omega)).trans ((ps_up_ne (show 0 ≠ 29 + (h 1).toNat by omega)).trans (ps_up_ne (show 0 ≠ 25 + (h 1).toNat by omega)))
  have e1 : (ps_up (ps_up (ps_up h (25 + (h 1).toNat) x) (29 + (h 1).toNat) y) (1) (h 1 + 1)) 1 = (h 1 + 1) := ps_up_self
  have e2 : (ps_up (ps_up (ps_up h (25 + (h 1).toNat) x) (29 + (h 1).toNat) y) (1) (h 1 + 1)) 2 = h 2 := (ps_up_ne (show 2 ≠ 1 by omega)).trans ((ps_up_ne (show 2 ≠ 29 + (h 1).toNat by omega)).trans (ps_up_ne (show 2 ≠ 25 + (h 1).toNat by omega)))
  have e3 : (ps_up (ps_up (ps_up h (25 + (h 1).toNat) x) (29 + (h 1).toNat) y) (1) (h 1 + 1)) 3 = h 3 := (ps_up_ne (show 3 ≠ 1 by omega)).trans ((ps_up_ne (show 3 ≠ 29 + (h 1).toNat by omega)).trans (ps_up_ne (show 3 ≠ 25 + (h 1).toNat by omega)))
  refine ⟨fun j hj => ?_, fun j hj => ?_, ?_⟩
  · unfold ps_lv at hj
    rw [e0, e1, e2, e3] at hj
    rcases hj with hj | hj | hj | hj | hj | hj | hj | hj | hj | hj | hj
    · exact ps_up_ag (fun z2 => ps_up_ag (fun z1 => ps_up_ag (fun z0 => h1 j (.inl (by omega)))))
    · exact ps_up_ag (fun z2 => ps_up_ag (fun z1 => ps_up_ag (fun z0 => h1 j (.inr (.inl ⟨by omega, by omega, by omega⟩)))))
    · exact ps_up_ag (fun z2 => ps_up_ag (fun z1 => ps_up_ag (fun z0 => h1 j (.inr (.inr (.inl ⟨by omega, by omega, by omega⟩))))))
    · exact ps_up_ag (fun z2 => ps_up_ag (fun z1 => ps_up_ag (fun z0 => h1 j (.inr (.inr (.inr (.inl ⟨by omega, by omega, by omega⟩)))))))
    · exact ps_up_ag (fun z2 => ps_up_ag (fun z1 => ps_up_ag (fun z0 => h1 j (.inr (.inr (.inr (.inr (.inl ⟨by omega, by omega, by omega⟩))))))))
    · exact ps_up_ag (fun z2 => ps_up_ag (fun z1 => ps_up_ag (fun z0 => h1 j (.inr (.inr (.inr (.inr (.inr (.inl ⟨by omega, by omega, by omega⟩)))))))))
    · exact ps_up_ag (fun z2 => ps_up_ag (fun z1 => ps_up_ag (fun z0 => h1 j (.inr (.inr (.inr (.inr (.inr (.inr (.inl ⟨by omega, by omega, by omega⟩))))))))))
    · exact ps_up_ag (fun z2 => ps_up_ag (fun z1 => ps_up_ag (fun z0 => h1 j (.inr (.inr (.inr (.inr (.inr (.inr (.inr (.inl ⟨by omega, by omega, by omega⟩)))))))))))
    · exact ps_up_ag (fun z2 => ps_up_ag (fun z1 => ps_up_ag (fun z0 => h1 j (.inr (.inr (.inr (.inr (.inr (.inr (.inr (.inr (.inl ⟨by omega, by omega, by omega⟩))))))))))))
    · exact ps_up_ag (fun z2 => ps_up_ag (fun z1 => ps_up_ag (fun z0 => h1 j (.inr (.inr (.inr (.inr (.inr (.inr (.inr (.inr (.inr (.inl ⟨by omega, by omega, by omega⟩)))))))))))))
    · exact ps_up_ag (fun z2 => ps_up_ag (fun z1 => ps_up_ag (fun z0 => h1 j (.inr (.inr (.inr (.inr (.inr (.inr (.inr (.inr (.inr (.inr (⟨by omega, by omega, by omega⟩))))))))))))))
  · unfold ps_ln at hj
    rw [e0, e1, e2] at hj
    by_cases z : j = 6 + (h 1).toNat
    · rw [z, ps_un_self, ps_un_self]
      exact ⟨rfl, hc⟩
    · rw [ps_un_ne z, ps_un_ne z]
      rcases hj with hj | hj | hj
      · exact h2 j (.inl ⟨by omega, by omega⟩)
      · exact h2 j (.inr (.inl ⟨by omega, by omega, by omega⟩))
      · exact h2 j (.inr (.inr ⟨by omega, by omega, by omega⟩))
  · unfold ps_bd
    rw [e0, e1, e2, e3]
    omega
theorem ps_Q_meet {F : Nat → Nat} {f : Nat → Int} {g : Nat → Int64} {h : Nat → Int} {nm : Nat → Nat} {x : Int} {c : Nat} (hc : c < 32 ^ 7) (hQ : ps_Q F f g h nm) (hk : h 2 < 6) : ps_Q F (ps_up (ps_up f (33 + (h 2).toNat) x) (2) (h 2 + 1)) (ps_un g (10 + (h 2).toNat) (Int64.ofNat (F c))) (ps_up (ps_up h (33 + (h 2).toNat) x) (2) (h 2 + 1)) (ps_un nm (10 + (h 2).toNat) c) := by
  obtain ⟨h1, h2, h3⟩ := hQ
  unfold ps_bd at h3
  have e0 : (ps_up (ps_up h (33 + (h 2).toNat) x) (2) (h 2 + 1)) 0 = h 0 := (ps_up_ne (show 0 ≠ 2 by omega)).trans (ps_up_ne (show 0 ≠ 33 + (h 2).toNat by omega))
  have e1 : (ps_up (ps_up h (33 + (h 2).toNat) x) (2) (h 2 + 1)) 1 = h 1 := (ps_up_ne (show 1 ≠ 2 by omega)).trans (ps_up_ne (show 1 ≠ 33 + (h 2).toNat by omega))
  have e2 : (ps_up (ps_up h (33 + (h 2).toNat) x) (2) (h 2 + 1)) 2 = (h 2 + 1) := ps_up_self
  have e3 : (ps_up (ps_up h (33 + (h 2).toNat) x) (2) (h 2 + 1)) 3 = h 3 := (ps_up_ne (show 3 ≠ 2 by omega)).trans (ps_up_ne (show 3 ≠ 33 + (h 2).toNat by omega))
  refine ⟨fun j hj => ?_, fun j hj => ?_, ?_⟩
  · unfold ps_lv at hj
    rw [e0, e1, e2, e3] at hj
    rcases hj with hj | hj | hj | hj | hj | hj | hj | hj | hj | hj | hj
    · exact ps_up_ag (fun z1 => ps_up_ag (fun z0 => h1 j (.inl (by omega))))
    · exact ps_up_ag (fun z1 => ps_up_ag (fun z0 => h1 j (.inr (.inl ⟨by omega, by omega, by omega⟩))))
    · exact ps_up_ag (fun z1 => ps_up_ag (fun z0 => h1 j (.inr (.inr (.inl ⟨by omega, by omega, by omega⟩)))))
    · exact ps_up_ag (fun z1 => ps_up_ag (fun z0 => h1 j (.inr (.inr (.inr (.inl ⟨by omega, by omega, by omega⟩))))))
    · exact ps_up_ag (fun z1 => ps_up_ag (fun z0 => h1 j (.inr (.inr (.inr (.inr (.inl ⟨by omega, by omega, by omega⟩)))))))
    · exact ps_up_ag (fun z1 => ps_up_ag (fun z0 => h1 j (.inr (.inr (.inr (.inr (.inr (.inl ⟨by omega, by omega, by omega⟩))))))))
    · exact ps_up_ag (fun z1 => ps_up_ag (fun z0 => h1 j (.inr (.inr (.inr (.inr (.inr (.inr (.inl ⟨by omega, by omega, by omega⟩)))))))))
    · exact ps_up_ag (fun z1 => ps_up_ag (fun z0 => h1 j (.inr (.inr (.inr (.inr (.inr (.inr (.inr (.inl ⟨by omega, by omega, by omega⟩))))))))))
    · exact ps_up_ag (fun z1 => ps_up_ag (fun z0 => h1 j (.inr (.inr (.inr (.inr (.inr (.inr (.inr (.inr (.inl ⟨by omega, by omega, by omega⟩)))))))))))
    · exact ps_up_ag (fun z1 => ps_up_ag (fun z0 => h1 j (.inr (.inr (.inr (.inr (.inr (.inr (.inr (.inr (.inr (.inl ⟨by omega, by omega, by omega⟩))))))))))))
    · exact ps_up_ag (fun z1 => ps_up_ag (fun z0 => h1 j (.inr (.inr (.inr (.inr (.inr (.inr (.inr (.inr (.inr (.inr (⟨by omega, by omega, by omega⟩)))))))))))))
  · unfold ps_ln at hj
    rw [e0, e1, e2] at hj
    by_cases z : j = 10 + (h 2).toNat
    · rw [z, ps_un_self, ps_un_self]
      exact ⟨rfl, hc⟩
    · rw [ps_un_ne z, ps_un_ne z]
      rcases hj with hj | hj | hj
      · exact h2 j (.inl ⟨by omega, by omega⟩)
      · exact h2 j (.inr (.inl ⟨by omega, by omega, by omega⟩))
      · exact h2 j (.inr (.inr ⟨by omega, by omega, by omega⟩))
  · unfold ps_bd
    rw [e0, e1, e2, e3]
    omega
theorem ps_Q_debt {F : Nat → Nat} {f : Nat → Int} {g : Nat → Int64} {h : Nat → Int} {nm : Nat → Nat} {u : Int} {v : Int} {x : Int} {y : Int} (hQ : ps_Q F f g h nm) (hk : h 3 < 10) : ps_Q F (ps_up (ps_up (ps_up (ps_up (ps_up f (39 + (h 3).toNat) u) (49 + (h 3).toNat) v) (59 + (h 3).toNat) x) (69 + (h 3).toNat) y) (3) (h 3 + 1)) g (ps_up (ps_up (ps_up (ps_up (ps_up h (39 + (h 3).toNat) u) (49 + (h 3).toNat) v) (59 + (h 3).toNat) x) (69 + (h 3).toNat) y) (3) (h 3 + 1)) nm := by
  obtain ⟨h1, h2, h3⟩ := hQ
  unfold ps_bd at h3
  have e0 : (ps_up (ps_up (ps_up (ps_up (ps_up h (39 + (h 3).toNat) u) (49 + (h 3).toNat) v) (59 + (h 3).toNat) x) (69 + (h 3).toNat) y) (3) (h 3 + 1)) 0 = h 0 := (ps_up_ne (show 0 ≠ 3 by omega)).trans ((ps_up_ne (show 0 ≠ 69 + (h 3).toNat by omega)).trans ((ps_up_ne (show 0 ≠ 59 + (h 3).toNat by omega)).trans ((ps_up_ne (show 0 ≠ 49 + (h 3).toNat by omega)).trans (ps_up_ne (show 0 ≠ 39 + (h 3).toNat by omega)))))
  have e1 : (ps_up (ps_up (ps_up (ps_up (ps_up h (39 + (h 3).toNat) u) (49 + (h 3).toNat) v) (59 + (h 3).toNat) x) (69 + (h 3).toNat) y) (3) (h 3 + 1)) 1 = h 1 := (ps_up_ne (show 1 ≠ 3 by omega)).trans ((ps_up_ne (show 1 ≠ 69 + (h 3).toNat by omega)).trans ((ps_up_ne (show 1 ≠ 59 + (h 3).toNat by omega)).trans ((ps_up_ne (show 1 ≠ 49 + (h 3).toNat by omega)).trans (ps_up_ne (show 1 ≠ 39 + (h 3).toNat by omega)))))
  have e2 : (ps_up (ps_up (ps_up (ps_up (ps_up h (39 + (h 3).toNat) u) (49 + (h 3).toNat) v) (59 + (h 3).toNat) x) (69 + (h 3).toNat) y) (3) (h 3 + 1)) 2 = h 2 := (ps_up_ne (show 2 ≠ 3 by omega)).trans ((ps_up_ne (show 2 ≠ 69 + (h 3).toNat by omega)).trans ((ps_up_ne (show 2 ≠ 59 + (h 3).toNat by omega)).trans ((ps_up_ne (show 2 ≠ 49 + (h 3).toNat by omega)).trans (ps_up_ne (show 2 ≠ 39 + (h 3).toNat by omega)))))
  have e3 : (ps_up (ps_up (ps_up (ps_up (ps_up h (39 + (h 3).toNat) u) (49 + (h 3).toNat) v) (59 + (h 3).toNat) x) (69 + (h 3).toNat) y) (3) (h 3 + 1)) 3 = (h 3 + 1) := ps_up_self
  refine ⟨fun j hj => ?_, fun j hj => ?_, ?_⟩
  · unfold ps_lv at hj
    rw [e0, e1, e2, e3] at hj
    rcases hj with hj | hj | hj | hj | hj | hj | hj | hj | hj | hj | hj
    · exact ps_up_ag (fun z4 => ps_up_ag (fun z3 => ps_up_ag (fun z2 => ps_up_ag (fun z1 => ps_up_ag (fun z0 => h1 j (.inl (by omega)))))))
    · exact ps_up_ag (fun z4 => ps_up_ag (fun z3 => ps_up_ag (fun z2 => ps_up_ag (fun z1 => ps_up_ag (fun z0 => h1 j (.inr (.inl ⟨by omega, by omega, by omega⟩)))))))
    · exact ps_up_ag (fun z4 => ps_up_ag (fun z3 => ps_up_ag (fun z2 => ps_up_ag (fun z1 => ps_up_ag (fun z0 => h1 j (.inr (.inr (.inl ⟨by omega, by omega, by omega⟩))))))))
    · exact ps_up_ag (fun z4 => ps_up_ag (fun z3 => ps_up_ag (fun z2 => ps_up_ag (fun z1 => ps_up_ag (fun z0 => h1 j (.inr (.inr (.inr (.inl ⟨by omega, by omega, by omega⟩)))))))))
    · exact ps_up_ag (fun z4 => ps_up_ag (fun z3 => ps_up_ag (fun z2 => ps_up_ag (fun z1 => ps_up_ag (fun z0 => h1 j (.inr (.inr (.inr (.inr (.inl ⟨by omega, by omega, by omega⟩))))))))))
    · exact ps_up_ag (fun z4 => ps_up_ag (fun z3 => ps_up_ag (fun z2 => ps_up_ag (fun z1 => ps_up_ag (fun z0 => h1 j (.inr (.inr (.inr (.inr (.inr (.inl ⟨by omega, by omega, by omega⟩)))))))))))
    · exact ps_up_ag (fun z4 => ps_up_ag (fun z3 => ps_up_ag (fun z2 => ps_up_ag (fun z1 => ps_up_ag (fun z0 => h1 j (.inr (.inr (.inr (.inr (.inr (.inr (.inl ⟨by omega, by omega, by omega⟩))))))))))))
    · exact ps_up_ag (fun z4 => ps_up_ag (fun z3 => ps_up_ag (fun z2 => ps_up_ag (fun z1 => ps_up_ag (fun z0 => h1 j (.inr (.inr (.inr (.inr (.inr (.inr (.inr (.inl ⟨by omega, by omega, by omega⟩)))))))))))))
    · exact ps_up_ag (fun z4 => ps_up_ag (fun z3 => ps_up_ag (fun z2 => ps_up_ag (fun z1 => ps_up_ag (fun z0 => h1 j (.inr (.inr (.inr (.inr (.inr (.inr (.inr (.inr (.inl ⟨by omega, by omega, by omega⟩))))))))))))))
    · exact ps_up_ag (fun z4 => ps_up_ag (fun z3 => ps_up_ag (fun z2 => ps_up_ag (fun z1 => ps_up_ag (fun z0 => h1 j (.inr (.inr (.inr (.inr (.inr (.inr (.inr (.inr (.inr (.inl ⟨by omega, by omega, by omega⟩)))))))))))))))
    · exact ps_up_ag (fun z4 => ps_up_ag (fun z3 => ps_up_ag (fun z2 => ps_up_ag (fun z1 => ps_up_ag (fun z0 => h1 j (.inr (.inr (.inr (.inr (.inr (.inr (.inr (.inr (.inr (.inr (⟨by omega, by omega, by omega⟩))))))))))))))))
  · unfold ps_ln at hj
    rw [e0, e1, e2] at hj
    exact h2 j hj
  · unfold ps_bd
    rw [e0, e1, e2, e3]
    omega

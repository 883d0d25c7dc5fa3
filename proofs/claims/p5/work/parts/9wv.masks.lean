/-! ## lists of places and methods as bits of one number (wip/p22/gen_masks.py) -/
def um_b (m x : Nat) : Bool := Nat.beq (Nat.land (Nat.shiftRight m x) 1) 1
def um_m : List Nat → Nat
  | [] => 0
  | p :: l => Nat.lor (Nat.shiftLeft 1 p) (um_m l)
theorem um_bt {m x : Nat} (h : um_b m x = true) : m.testBit x = true := by
  have h1 : (m >>> x) &&& 1 = 1 := ia_beq h
  rw [Nat.and_one_is_mod, Nat.shiftRight_eq_div_pow] at h1
  rw [Nat.testBit_eq_decide_div_mod_eq]
  exact decide_eq_true h1
theorem um_mem : ∀ (P : List Nat) (x : Nat), (um_m P).testBit x = true → x ∈ P
  | [], x, h => by
    rw [show um_m [] = 0 from rfl, Nat.zero_testBit] at h
    cases h
  | p :: l, x, h => by
    rw [show um_m (p :: l) = (1 <<< p) ||| um_m l from rfl, Nat.testBit_or, Bool.or_eq_true] at h
    rcases h with h | h
    · rw [Nat.one_shiftLeft, Nat.testBit_two_pow] at h
      have := of_decide_eq_true h
      exact List.mem_cons.mpr (.inl this.symm)
    · exact List.mem_cons_of_mem _ (um_mem l x h)
theorem um_con {P : List Nat} {x : Nat} (h : um_b (um_m P) x = true) : P.contains x = true := by
  have := um_mem P x (um_bt h)
  simpa using this
def um_tg (pc m : Nat) (o : Int) : Bool := match Int.add (Int.ofNat pc) o with
  | .ofNat t => um_b m t
  | .negSucc _ => true
noncomputable def um_cl (y : Nat) (ins : Instr) (m : Nat) : Bool := match ins with
  | .invokevirtual i => (match ia_pl (ia_cls y) i with
    | some (1, y2, _, _, _) => um_b m y2
    | _ => true)
  | .invokestatic i => (match ia_pl (ia_cls y) i with
    | some (1, y2, _, _, _) => um_b m y2
    | _ => true)
  | _ => true
noncomputable def um_pc (f : Instr → Bool) (sm y pm pc : Nat) : Bool := match fdd y pc with
  | .ok (ins, len) => f ins && (um_cl y ins sm && ((u2_rt ins || um_b pm (pc + len)) && (um_b pm (pc + 3) || !(u2_iv ins)) && (u2_off ins).all (um_tg pc pm)))
  | .error _ => true
noncomputable def um_ck (f : Instr → Bool) (sm y : Nat) (P : List Nat) (pm : Nat) : Bool := um_b pm 0 && P.all (um_pc f sm y pm)
noncomputable def um_f (B : List (Nat × Nat)) (y : Nat) (ins : Instr) : Bool := u2_in y ins && u3_in B y ins
theorem um_cl_ok {y m : Nat} {ins : Instr} {S : List Nat} (hS : ∀ x, um_b m x = true → S.contains x = true) (h : um_cl y ins m = true) : u2_cl y ins S = true := by
  unfold um_cl at h
  unfold u2_cl
  split
  · simp only at h
    split
    · rename_i hp
      simp only [hp] at h
      exact hS _ h
    · rfl
  · simp only at h
    split
    · rename_i hp
      simp only [hp] at h
      exact hS _ h
    · rfl
  · rfl
theorem um_tg_ok {pc : Nat} {P : List Nat} {o : Int} (h : um_tg pc (um_m P) o = true) : u2_tg pc P o = true := by
  unfold um_tg at h
  unfold u2_tg
  split
  · rename_i e
    rw [e] at h
    exact um_con h
  · rfl
theorem um_pc_2 {f : Instr → Bool} {sm y pc : Nat} {S P : List Nat} (hf : ∀ ins, f ins = true → u2_in y ins = true) (hS : ∀ x, um_b sm x = true → S.contains x = true) (h : um_pc f sm y (um_m P) pc = true) : u2_pc S y P pc = true := by
  unfold um_pc at h
  rw [fdd_eq] at h
  unfold u2_pc
  split
  · rename_i e
    rw [e] at h
    simp only [Bool.and_eq_true, Bool.or_eq_true] at h ⊢
    obtain ⟨k1, k2, ⟨k3, k4⟩, k5⟩ := h
    exact ⟨hf _ k1, um_cl_ok hS k2, ⟨k3.imp id um_con, k4.imp um_con id⟩, List.all_eq_true.mpr fun z hz => um_tg_ok (List.all_eq_true.mp k5 z hz)⟩
  · rfl
theorem um_pc_3 {f : Instr → Bool} {B : List (Nat × Nat)} {sm y pc : Nat} {S P : List Nat} (hf : ∀ ins, f ins = true → u3_in B y ins = true) (hS : ∀ x, um_b sm x = true → S.contains x = true) (h : um_pc f sm y (um_m P) pc = true) : u3_pc B S y P pc = true := by
  unfold um_pc at h
  rw [fdd_eq] at h
  unfold u3_pc
  split
  · rename_i e
    rw [e] at h
    simp only [Bool.and_eq_true, Bool.or_eq_true] at h ⊢
    obtain ⟨k1, k2, ⟨k3, k4⟩, k5⟩ := h
    exact ⟨hf _ k1, um_cl_ok hS k2, ⟨k3.imp id um_con, k4.imp um_con id⟩, List.all_eq_true.mpr fun z hz => um_tg_ok (List.all_eq_true.mp k5 z hz)⟩
  · rfl
theorem um_2 {f : Instr → Bool} {sm y : Nat} {S P : List Nat} (hf : ∀ ins, f ins = true → u2_in y ins = true) (hS : ∀ x, um_b sm x = true → S.contains x = true) (h : um_ck f sm y P (um_m P) = true) : u2_ck S y P = true := by
  unfold um_ck at h
  unfold u2_ck
  rw [Bool.and_eq_true] at h ⊢
  exact ⟨um_con h.1, List.all_eq_true.mpr fun z hz => um_pc_2 hf hS (List.all_eq_true.mp h.2 z hz)⟩
theorem um_3 {f : Instr → Bool} {B : List (Nat × Nat)} {sm y : Nat} {S P : List Nat} (hf : ∀ ins, f ins = true → u3_in B y ins = true) (hS : ∀ x, um_b sm x = true → S.contains x = true) (h : um_ck f sm y P (um_m P) = true) : u3_ck B S y P = true := by
  unfold um_ck at h
  unfold u3_ck
  rw [Bool.and_eq_true] at h ⊢
  exact ⟨um_con h.1, List.all_eq_true.mpr fun z hz => um_pc_3 hf hS (List.all_eq_true.mp h.2 z hz)⟩
theorem um_f2 {B : List (Nat × Nat)} {y : Nat} (ins : Instr) (h : um_f B y ins = true) : u2_in y ins = true := by
  unfold um_f at h
  rw [Bool.and_eq_true] at h
  exact h.1
theorem um_f3 {B : List (Nat × Nat)} {y : Nat} (ins : Instr) (h : um_f B y ins = true) : u3_in B y ins = true := by
  unfold um_f at h
  rw [Bool.and_eq_true] at h
  exact h.2
theorem um_S {I S : List Nat} (h : I.all (fun x => S.contains x) = true) (x : Nat) (hx : um_b (um_m I) x = true) : S.contains x = true := List.all_eq_true.mp h x (um_mem I x (um_bt hx))

/-! ## rows of longs: what leaves them as they are -/
/-- rows of longs -/
def u2_L (k : Nat) : Prop := ∃ c, cm_sh k = some c ∧ c.1 = 51
/-- where an instruction goes beside the next place -/
def u2_off (ins : Instr) : List Int := match ins with
  | .ifCond _ o => [o]
  | .if_icmp _ o => [o]
  | .goto o => [o]
  | .tableswitch d _ _ os => d :: os.toList
  | .lookupswitch d ps => d :: ps.toList.map (fun z => z.2)
  | _ => []
/-- no long is put into a row -/
noncomputable def u2_in (y : Nat) (ins : Instr) : Bool := match ins with
  | .lastore => false
  | .putfield i => (match ia_pl (ia_cls y) i with
    | some (0, ci, _, _, _) => Nat.blt ci 13
    | _ => true)
  | .invokestatic i => (match ia_pl (ia_cls y) i with
    | some (3, _, _, _, _) => false
    | _ => true)
  | _ => true
def u2_U (pc n : Nat) (l : List Int) (w : cm_W) (q : cm_A) : Prop := (q.1 = pc + n ∨ ∃ o, o ∈ l ∧ Int.add (Int.ofNat pc) o = Int.ofNat q.1) ∧ ∀ k i, u2_L k → q.2.2.2.2 k i = w.2 k i
section U2
variable {pc n len : Nat} {l : List Int} {lv : cm_L} {st : List cm_V} {w : cm_W} {q : cm_A}
theorem u2_t1 {e : Option cm_A} (h : ia_if (Nat.beq len n) e = some q) : len = n ∧ e = some q := ⟨ia_beq (ia_if_eq h).1, (ia_if_eq h).2⟩
theorem u2_t2 {c : Bool} {e : Option cm_A} (h : ia_if (Nat.beq len n && c) e = some q) : len = n ∧ e = some q := ⟨ia_beq (Bool.and_eq_true _ _ ▸ (ia_if_eq h).1).1, (ia_if_eq h).2⟩
theorem u2_nx {pc2 : Nat} {lv2 : cm_L} {st2 : List cm_V} {w2 : cm_W} (h : cm_nx pc2 lv2 st2 w2 = some q) (e1 : pc2 = pc + n) (e2 : ∀ k i, u2_L k → w2.2 k i = w.2 k i) : u2_U pc n l w q := by
  cases h
  exact ⟨.inl e1, e2⟩
theorem u2_ld {kd i : Nat} (h : cm_ld kd i n pc lv st w = some q) : u2_U pc n l w q := by
  unfold cm_ld at h
  split at h
  · exact u2_nx (ia_if_eq h).2 rfl (fun _ _ _ => rfl)
  · cases h
theorem u2_sto {kd i : Nat} (h : cm_sto kd i n pc lv st w = some q) : u2_U pc n l w q := by
  unfold cm_sto at h
  split at h
  · exact u2_nx (ia_if_eq h).2 rfl (fun _ _ _ => rfl)
  · cases h
theorem u2_stl {i : Nat} (h : cm_stl i n pc lv st w = some q) : u2_U pc n l w q := by
  unfold cm_stl at h
  split at h
  · exact u2_nx (ia_if_eq h).2 rfl (fun _ _ _ => rfl)
  · cases h
theorem u2_bin {f : Int32 → Int32 → Int32} (h : cm_bin f pc lv st w = some q) : u2_U pc 1 l w q := by
  unfold cm_bin at h
  split at h
  · exact u2_nx h rfl (fun _ _ _ => rfl)
  · cases h
theorem u2_al {tg : Nat} (h : cm_al tg pc lv st w = some q) : u2_U pc 1 l w q := by
  unfold cm_al at h
  split at h
  · split at h
    · exact u2_nx (ia_if_eq h).2 rfl (fun _ _ _ => rfl)
    · cases h
  · cases h
theorem u2_as {tg : Nat} {g : Int32 → Int32} (h : cm_as tg g pc lv st w = some q) : u2_U pc 1 l w q := by
  unfold cm_as at h
  split at h
  · split at h
    · exact u2_nx (ia_if_eq h).2 rfl (fun _ _ _ => rfl)
    · cases h
  · cases h
theorem u2_jmp {o : Int} (ho : o ∈ l) (h : cm_jmp o pc lv st w = some q) : u2_U pc n l w q := by
  unfold cm_jmp at h
  split at h
  · rename_i t ht
    cases h
    exact ⟨.inr ⟨o, ho, ht⟩, fun _ _ _ => rfl⟩
  · cases h
theorem u2_br {r : Bool} {o : Int} (ho : o ∈ l) (h : cm_br r o pc lv st w = some q) : u2_U pc 3 l w q := by
  unfold cm_br at h
  split at h
  · rename_i t ht
    split at h
    · cases h
      exact ⟨.inr ⟨o, ho, ht⟩, fun _ _ _ => rfl⟩
    · exact u2_nx h rfl (fun _ _ _ => rfl)
  · cases h
theorem u2_at {α : Type} {r : List α} {j : Nat} {o : α} (h : ia_at r j = some o) : o ∈ r := by
  rw [ia_at_eq] at h
  exact List.mem_of_getElem? h
theorem u2_tsw {d lo hi : Int} {os : Array Int} (h : cm_tsw d lo hi os pc lv st w = some q) : u2_U pc n (d :: os.toList) w q := by
  unfold cm_tsw at h
  split at h
  · split at h
    · exact u2_jmp List.mem_cons_self h
    · split at h
      · rename_i o ho
        exact u2_jmp (List.mem_cons_of_mem _ (u2_at ho)) h
      · cases h
  · cases h
theorem u2_lko {d : Int} {a : Int} : ∀ (ps : List (Int × Int)), Op.lookupswitch.offset ps d a = d ∨ ∃ z, z ∈ ps ∧ Op.lookupswitch.offset ps d a = z.2 := by
  intro ps
  induction ps with
  | nil => exact .inl rfl
  | cons z r ih =>
    obtain ⟨a0, o0⟩ := z
    by_cases c : a0 = a
    · exact .inr ⟨(a0, o0), List.mem_cons_self, (Op.lookupswitch.offset_cons a0 o0 r d a).trans (if_pos c)⟩
    · rw [Op.lookupswitch.offset_cons, if_neg c]
      rcases ih with h | ⟨z, hz, h⟩
      · exact .inl h
      · exact .inr ⟨z, List.mem_cons_of_mem _ hz, h⟩
theorem u2_lks {d : Int} {ps : Array (Int × Int)} (h : cm_lks d ps pc lv st w = some q) : u2_U pc n (d :: ps.toList.map (fun z => z.2)) w q := by
  unfold cm_lks at h
  split at h
  · rename_i a t
    have h := (ia_if_eq h).2
    refine u2_jmp ?_ h
    rcases u2_lko (d := d) (a := a.toInt) ps.toList with e | ⟨z, hz, e⟩
    · rw [e]
      exact List.mem_cons_self
    · rw [e]
      exact List.mem_cons_of_mem _ (List.mem_map_of_mem hz)
  · cases h
theorem u2_inv {y i : Nat} (hok : u2_in y (.invokestatic i) = true) (h : cm_inv y i pc lv st w = some q) : u2_U pc 3 l w q := by
  unfold cm_inv at h
  unfold u2_in at hok
  split at h
  · rename_i hp
    simp only [hp] at hok
    cases hok
  · split at h
    · exact u2_nx (ia_if_eq h).2 rfl (fun _ _ _ => rfl)
    · cases h
  · split at h
    · exact u2_nx (ia_if_eq h).2 rfl (fun _ _ _ => rfl)
    · cases h
  · cases h
theorem u2_put {k sl z : Nat} {v : cm_V} {w' : cm_W} (hk : ¬ u2_L k) (h : cm_put w k sl z v = some w') : ∀ a b, u2_L a → w'.2 a b = w.2 a b := by
  unfold cm_put at h
  split at h
  · cases h
    exact fun _ _ _ => rfl
  · cases h
    exact fun a b ha => if_neg (fun (z : a = k ∧ b = sl) => hk (z.1 ▸ ha))
  · cases h
end U2
theorem u2_do {y pc len : Nat} {ins : Instr} {lv : cm_L} {st : List cm_V} {w : cm_W} {q : cm_A} (hok : u2_in y ins = true) (h : cm_do y pc ins len lv st w = some q) : u2_U pc len (u2_off ins) w q := by
  unfold cm_do at h
  split at h
  all_goals try (exact absurd h (by intro z; cases z))
  all_goals try (obtain ⟨rfl, h⟩ := u2_t1 h; exact u2_nx h rfl (fun _ _ _ => rfl))
  all_goals try (obtain ⟨rfl, h⟩ := u2_t1 h; exact u2_ld h)
  all_goals try (obtain ⟨rfl, h⟩ := u2_t2 h; exact u2_sto h)
  all_goals try (obtain ⟨rfl, h⟩ := u2_t2 h; exact u2_stl h)
  all_goals try (obtain ⟨rfl, h⟩ := u2_t1 h; exact u2_bin h)
  all_goals try (obtain ⟨rfl, h⟩ := u2_t1 h; exact u2_al h)
  all_goals try (obtain ⟨rfl, h⟩ := u2_t1 h; exact u2_as h)
  all_goals try (obtain ⟨rfl, h⟩ := u2_t1 h; exact u2_jmp List.mem_cons_self h)
  all_goals try (exact u2_tsw h)
  all_goals try (obtain ⟨rfl, h⟩ := u2_t1 h; exact u2_inv hok h)
  case h_10 =>
    replace h := u2_t2 h
    obtain ⟨e9, h⟩ := h
    subst e9
    exact u2_sto h
  case h_11 =>
    replace h := u2_t2 h
    obtain ⟨e9, h⟩ := h
    subst e9
    exact u2_sto h
  case h_12 =>
    replace h := u2_t2 h
    obtain ⟨e9, h⟩ := h
    subst e9
    exact u2_sto h
  case h_13 =>
    replace h := u2_t2 h
    obtain ⟨e9, h⟩ := h
    subst e9
    exact u2_sto h
  case h_14 =>
    replace h := u2_t2 h
    obtain ⟨e9, h⟩ := h
    subst e9
    exact u2_stl h
  case h_15 =>
    replace h := u2_t2 h
    obtain ⟨e9, h⟩ := h
    subst e9
    split at h
    · exact u2_nx (ia_if_eq h).2 rfl (fun _ _ _ => rfl)
    · cases h
  case h_25 =>
    replace h := u2_t1 h
    obtain ⟨e9, h⟩ := h
    subst e9
    split at h
    · exact u2_bin (ia_if_eq h).2
    · cases h
  case h_26 =>
    replace h := u2_t1 h
    obtain ⟨e9, h⟩ := h
    subst e9
    split at h
    · exact u2_bin (ia_if_eq h).2
    · cases h
  case h_27 =>
    replace h := u2_t1 h
    obtain ⟨e9, h⟩ := h
    subst e9
    split at h
    · exact u2_nx h rfl (fun _ _ _ => rfl)
    · cases h
  case h_28 =>
    replace h := u2_t1 h
    obtain ⟨e9, h⟩ := h
    subst e9
    split at h
    · exact u2_nx h rfl (fun _ _ _ => rfl)
    · cases h
  case h_29 =>
    replace h := u2_t1 h
    obtain ⟨e9, h⟩ := h
    subst e9
    split at h
    · exact u2_nx h rfl (fun _ _ _ => rfl)
    · cases h
  case h_30 =>
    replace h := u2_t1 h
    obtain ⟨e9, h⟩ := h
    subst e9
    split at h
    · exact u2_nx h rfl (fun _ _ _ => rfl)
    · cases h
  case h_31 =>
    replace h := u2_t1 h
    obtain ⟨e9, h⟩ := h
    subst e9
    split at h
    · exact u2_nx h rfl (fun _ _ _ => rfl)
    · cases h
  case h_32 =>
    replace h := u2_t1 h
    obtain ⟨e9, h⟩ := h
    subst e9
    split at h
    · exact u2_nx h rfl (fun _ _ _ => rfl)
    · cases h
  case h_33 =>
    replace h := u2_t1 h
    obtain ⟨e9, h⟩ := h
    subst e9
    split at h
    · exact u2_nx h rfl (fun _ _ _ => rfl)
    · cases h
  case h_34 =>
    replace h := u2_t1 h
    obtain ⟨e9, h⟩ := h
    subst e9
    split at h
    · exact u2_nx (ia_if_eq h).2 rfl (fun _ _ _ => rfl)
    · cases h
  case h_35 =>
    replace h := u2_t1 h
    obtain ⟨e9, h⟩ := h
    subst e9
    split at h
    · exact u2_nx (ia_if_eq h).2 rfl (fun _ _ _ => rfl)
    · cases h
  case h_36 =>
    replace h := u2_t1 h
    obtain ⟨e9, h⟩ := h
    subst e9
    split at h
    · exact u2_nx (ia_if_eq h).2 rfl (fun _ _ _ => rfl)
    · cases h
  case h_37 =>
    replace h := u2_t1 h
    obtain ⟨e9, h⟩ := h
    subst e9
    split at h
    · exact u2_br List.mem_cons_self h
    · cases h
  case h_38 =>
    replace h := u2_t1 h
    obtain ⟨e9, h⟩ := h
    subst e9
    split at h
    · exact u2_br List.mem_cons_self h
    · cases h
  case h_41 =>
    exact u2_lks h
  case h_42 =>
    replace h := u2_t1 h
    obtain ⟨e9, h⟩ := h
    subst e9
    split at h
    · split at h
      · split at h
        · exact u2_nx (ia_if_eq h).2 rfl (fun _ _ _ => rfl)
        · cases h
      · cases h
    · cases h
  case h_43 =>
    replace h := u2_t1 h
    obtain ⟨e9, h⟩ := h
    subst e9
    unfold u2_in at hok
    split at h
    · split at h
      · rename_i hp
        simp only [hp] at hok
        split at h
        · rename_i c hc
          have hc2 := (ia_if_eq h).1
          have h := (ia_if_eq h).2
          split at h
          · rename_i w' hw
            rw [Bool.and_eq_true] at hc2
            refine u2_nx h rfl (u2_put (fun ⟨c3, e3, e4⟩ => ?_) hw)
            rw [hc] at e3
            cases e3
            have e5 := ia_beq hc2.1
            have e6 := Nat.blt_eq.mp hok
            omega
          · cases h
        · cases h
      · cases h
    · cases h
  case h_46 =>
    replace h := u2_t1 h
    obtain ⟨e9, h⟩ := h
    subst e9
    split at h
    · exact u2_al h
    · exact u2_al h
  case h_47 =>
    replace h := u2_t1 h
    obtain ⟨e9, h⟩ := h
    subst e9
    split at h
    · exact u2_al h
    · exact u2_al h
  case h_49 =>
    exact absurd hok (by intro z; cases z)
  case h_50 =>
    replace h := u2_t1 h
    obtain ⟨e9, h⟩ := h
    subst e9
    split at h
    · exact u2_as h
    · exact u2_as h
  case h_51 =>
    replace h := u2_t1 h
    obtain ⟨e9, h⟩ := h
    subst e9
    split at h
    · split at h
      · exact u2_nx (ia_if_eq h).2 rfl (fun _ _ _ => rfl)
      · cases h
    · cases h
  case h_52 =>
    replace h := u2_t1 h
    obtain ⟨e9, h⟩ := h
    subst e9
    split at h
    · exact u2_nx h rfl (fun _ _ _ => rfl)
    · cases h
  case h_53 =>
    replace h := u2_t1 h
    obtain ⟨e9, h⟩ := h
    subst e9
    split at h
    · exact u2_nx h rfl (fun _ _ _ => rfl)
    · cases h
  case h_54 =>
    replace h := u2_t1 h
    obtain ⟨e9, h⟩ := h
    subst e9
    split at h
    · exact u2_nx (ia_if_eq h).2 rfl (fun _ _ _ => rfl)
    · cases h

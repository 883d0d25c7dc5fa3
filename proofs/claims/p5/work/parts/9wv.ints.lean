/-! ## ints in fields of objects: what leaves them as they are (wip/p22/gen_u3.py) -/
noncomputable def u3_h (B : List (Nat × Nat)) (ci sl : Nat) : Bool := B.any (fun e => Nat.beq e.1 ci && Nat.beq e.2 sl)
/-- fields of objects, no rows -/
def u3_g (B : List (Nat × Nat)) : Bool := B.all (fun e => Nat.blt e.1 13)
def u3_F (B : List (Nat × Nat)) (w w' : cm_W) : Prop := ∀ k c i, cm_sh k = some c → u3_h B c.1 i = true → w'.1 k i = w.1 k i
theorem u3_rf {B : List (Nat × Nat)} {w : cm_W} : u3_F B w w := fun _ _ _ _ _ => rfl
theorem u3_F_tr {B : List (Nat × Nat)} {w w1 w2 : cm_W} (h1 : u3_F B w w1) (h2 : u3_F B w1 w2) : u3_F B w w2 := fun k c i a b => (h2 k c i a b).trans (h1 k c i a b)
theorem u3_hg {B : List (Nat × Nat)} {ci sl : Nat} (hg : u3_g B = true) (h : u3_h B ci sl = true) : ci < 13 := by
  obtain ⟨e, he, h2⟩ := List.any_eq_true.mp h
  rw [Bool.and_eq_true] at h2
  have h3 := Nat.blt_eq.mp (List.all_eq_true.mp hg e he)
  have h4 := ia_beq h2.1
  omega
noncomputable def u3_in (B : List (Nat × Nat)) (y : Nat) (ins : Instr) : Bool := match ins with
  | .putfield i => (match ia_pl (ia_cls y) i with
    | some (0, ci, sl, _, _) => !(u3_h B ci sl)
    | _ => true)
  | _ => true
def u3_U (B : List (Nat × Nat)) (pc n : Nat) (l : List Int) (w : cm_W) (q : cm_A) : Prop := (q.1 = pc + n ∨ ∃ o, o ∈ l ∧ Int.add (Int.ofNat pc) o = Int.ofNat q.1) ∧ u3_F B w q.2.2.2
section U3
variable {B : List (Nat × Nat)} {pc n len : Nat} {l : List Int} {lv : cm_L} {st : List cm_V} {w : cm_W} {q : cm_A}
theorem u3_nx {pc2 : Nat} {lv2 : cm_L} {st2 : List cm_V} {w2 : cm_W} (h : cm_nx pc2 lv2 st2 w2 = some q) (e1 : pc2 = pc + n) (e2 : u3_F B w w2) : u3_U B pc n l w q := by
  cases h
  exact ⟨.inl e1, e2⟩
theorem u3_ld {kd i : Nat} (h : cm_ld kd i n pc lv st w = some q) : u3_U B pc n l w q := by
  unfold cm_ld at h
  split at h
  · exact u3_nx (ia_if_eq h).2 rfl u3_rf
  · cases h
theorem u3_sto {kd i : Nat} (h : cm_sto kd i n pc lv st w = some q) : u3_U B pc n l w q := by
  unfold cm_sto at h
  split at h
  · exact u3_nx (ia_if_eq h).2 rfl u3_rf
  · cases h
theorem u3_stl {i : Nat} (h : cm_stl i n pc lv st w = some q) : u3_U B pc n l w q := by
  unfold cm_stl at h
  split at h
  · exact u3_nx (ia_if_eq h).2 rfl u3_rf
  · cases h
theorem u3_bin {f : Int32 → Int32 → Int32} (h : cm_bin f pc lv st w = some q) : u3_U B pc 1 l w q := by
  unfold cm_bin at h
  split at h
  · exact u3_nx h rfl u3_rf
  · cases h
theorem u3_al {tg : Nat} (h : cm_al tg pc lv st w = some q) : u3_U B pc 1 l w q := by
  unfold cm_al at h
  split at h
  · split at h
    · exact u3_nx (ia_if_eq h).2 rfl u3_rf
    · cases h
  · cases h
theorem u3_as {tg : Nat} {g : Int32 → Int32} (hg : u3_g B = true) (ht : 13 ≤ tg) (h : cm_as tg g pc lv st w = some q) : u3_U B pc 1 l w q := by
  unfold cm_as at h
  split at h
  · split at h
    · rename_i c hc
      have hb := (ia_if_eq h).1
      rw [Bool.and_eq_true] at hb
      refine u3_nx (ia_if_eq h).2 rfl (fun k2 c2 i2 a1 a2 => if_neg (fun z => ?_))
      rw [z.1, hc] at a1
      cases a1
      have := u3_hg hg a2
      have := ia_beq hb.1
      omega
    · cases h
  · cases h
theorem u3_jmp {o : Int} (ho : o ∈ l) (h : cm_jmp o pc lv st w = some q) : u3_U B pc n l w q := by
  unfold cm_jmp at h
  split at h
  · rename_i t ht
    cases h
    exact ⟨.inr ⟨o, ho, ht⟩, u3_rf⟩
  · cases h
theorem u3_br {r : Bool} {o : Int} (ho : o ∈ l) (h : cm_br r o pc lv st w = some q) : u3_U B pc 3 l w q := by
  unfold cm_br at h
  split at h
  · rename_i t ht
    split at h
    · cases h
      exact ⟨.inr ⟨o, ho, ht⟩, u3_rf⟩
    · exact u3_nx h rfl u3_rf
  · cases h
theorem u3_tsw {d lo hi : Int} {os : Array Int} (h : cm_tsw d lo hi os pc lv st w = some q) : u3_U B pc n (d :: os.toList) w q := by
  unfold cm_tsw at h
  split at h
  · split at h
    · exact u3_jmp List.mem_cons_self h
    · split at h
      · rename_i o ho
        exact u3_jmp (List.mem_cons_of_mem _ (u2_at ho)) h
      · cases h
  · cases h
theorem u3_lks {d : Int} {ps : Array (Int × Int)} (h : cm_lks d ps pc lv st w = some q) : u3_U B pc n (d :: ps.toList.map (fun z => z.2)) w q := by
  unfold cm_lks at h
  split at h
  · rename_i a t
    have h := (ia_if_eq h).2
    refine u3_jmp ?_ h
    rcases u2_lko (d := d) (a := a.toInt) ps.toList with e | ⟨z, hz, e⟩
    · rw [e]
      exact List.mem_cons_self
    · rw [e]
      exact List.mem_cons_of_mem _ (List.mem_map_of_mem hz)
  · cases h
theorem u3_inv {y i : Nat} (hg : u3_g B = true) (h : cm_inv y i pc lv st w = some q) : u3_U B pc 3 l w q := by
  unfold cm_inv at h
  split at h
  · split at h
    · split at h
      · split at h
        · rename_i cs hcs _ cd hcd
          have hb := (ia_if_eq h).1
          simp only [Bool.and_eq_true] at hb
          refine u3_nx (ia_if_eq h).2 rfl (fun k2 c2 i2 a1 a2 => if_neg (fun z => ?_))
          rw [z.1] at a1
          rw [hcd] at a1
          cases a1
          have h1 := u3_hg hg a2
          have h2 := ia_beq hb.2.2.2.2.2.2.1
          have h3 := hb.2.2.2.2.2.2.2.1
          rw [Bool.or_eq_true] at h3
          rcases h3 with h3 | h3
          · have := ia_beq h3
            omega
          · have := ia_beq h3
            omega
        · cases h
      · cases h
    · cases h
  · split at h
    · exact u3_nx (ia_if_eq h).2 rfl u3_rf
    · cases h
  · split at h
    · exact u3_nx (ia_if_eq h).2 rfl u3_rf
    · cases h
  · cases h
theorem u3_put {k sl z : Nat} {v : cm_V} {w' : cm_W} {c : Nat × Nat × List Nat} (hc : cm_sh k = some c) (hn : u3_h B c.1 sl = false) (h : cm_put w k sl z v = some w') : u3_F B w w' := by
  unfold cm_put at h
  split at h
  · cases h
    refine fun k2 c2 i2 a1 a2 => if_neg (fun z => ?_)
    rw [z.1, hc] at a1
    cases a1
    rw [z.2, hn] at a2
    cases a2
  · cases h
    exact u3_rf
  · cases h
end U3
theorem u3_do {B : List (Nat × Nat)} {y pc len : Nat} {ins : Instr} {lv : cm_L} {st : List cm_V} {w : cm_W} {q : cm_A} (hg : u3_g B = true) (hok : u3_in B y ins = true) (h : cm_do y pc ins len lv st w = some q) : u3_U B pc len (u2_off ins) w q := by
  unfold cm_do at h
  split at h
  all_goals try (exact absurd h (by intro z; cases z))
  all_goals try (obtain ⟨rfl, h⟩ := u2_t1 h; exact u3_nx h rfl u3_rf)
  all_goals try (obtain ⟨rfl, h⟩ := u2_t1 h; exact u3_ld h)
  all_goals try (obtain ⟨rfl, h⟩ := u2_t2 h; exact u3_sto h)
  all_goals try (obtain ⟨rfl, h⟩ := u2_t2 h; exact u3_stl h)
  all_goals try (obtain ⟨rfl, h⟩ := u2_t1 h; exact u3_bin h)
  all_goals try (obtain ⟨rfl, h⟩ := u2_t1 h; exact u3_al h)
  all_goals try (obtain ⟨rfl, h⟩ := u2_t1 h; exact u3_as hg (by decide) h)
  all_goals try (obtain ⟨rfl, h⟩ := u2_t1 h; exact u3_jmp List.mem_cons_self h)
  all_goals try (exact u3_tsw h)
  all_goals try (obtain ⟨rfl, h⟩ := u2_t1 h; exact u3_inv hg h)
  case h_10 =>
    replace h := u2_t2 h
    obtain ⟨e9, h⟩ := h
    subst e9
    exact u3_sto h
  case h_11 =>
    replace h := u2_t2 h
    obtain ⟨e9, h⟩ := h
    subst e9
    exact u3_sto h
  case h_12 =>
    replace h := u2_t2 h
    obtain ⟨e9, h⟩ := h
    subst e9
    exact u3_sto h
  case h_13 =>
    replace h := u2_t2 h
    obtain ⟨e9, h⟩ := h
    subst e9
    exact u3_sto h
  case h_14 =>
    replace h := u2_t2 h
    obtain ⟨e9, h⟩ := h
    subst e9
    exact u3_stl h
  case h_15 =>
    replace h := u2_t2 h
    obtain ⟨e9, h⟩ := h
    subst e9
    split at h
    · exact u3_nx (ia_if_eq h).2 rfl u3_rf
    · cases h
  case h_25 =>
    replace h := u2_t1 h
    obtain ⟨e9, h⟩ := h
    subst e9
    split at h
    · exact u3_bin (ia_if_eq h).2
    · cases h
  case h_26 =>
    replace h := u2_t1 h
    obtain ⟨e9, h⟩ := h
    subst e9
    split at h
    · exact u3_bin (ia_if_eq h).2
    · cases h
  case h_27 =>
    replace h := u2_t1 h
    obtain ⟨e9, h⟩ := h
    subst e9
    split at h
    · exact u3_nx h rfl u3_rf
    · cases h
  case h_28 =>
    replace h := u2_t1 h
    obtain ⟨e9, h⟩ := h
    subst e9
    split at h
    · exact u3_nx h rfl u3_rf
    · cases h
  case h_29 =>
    replace h := u2_t1 h
    obtain ⟨e9, h⟩ := h
    subst e9
    split at h
    · exact u3_nx h rfl u3_rf
    · cases h
  case h_30 =>
    replace h := u2_t1 h
    obtain ⟨e9, h⟩ := h
    subst e9
    split at h
    · exact u3_nx h rfl u3_rf
    · cases h
  case h_31 =>
    replace h := u2_t1 h
    obtain ⟨e9, h⟩ := h
    subst e9
    split at h
    · exact u3_nx h rfl u3_rf
    · cases h
  case h_32 =>
    replace h := u2_t1 h
    obtain ⟨e9, h⟩ := h
    subst e9
    split at h
    · exact u3_nx h rfl u3_rf
    · cases h
  case h_33 =>
    replace h := u2_t1 h
    obtain ⟨e9, h⟩ := h
    subst e9
    split at h
    · exact u3_nx h rfl u3_rf
    · cases h
  case h_34 =>
    replace h := u2_t1 h
    obtain ⟨e9, h⟩ := h
    subst e9
    split at h
    · exact u3_nx (ia_if_eq h).2 rfl u3_rf
    · cases h
  case h_35 =>
    replace h := u2_t1 h
    obtain ⟨e9, h⟩ := h
    subst e9
    split at h
    · exact u3_nx (ia_if_eq h).2 rfl u3_rf
    · cases h
  case h_36 =>
    replace h := u2_t1 h
    obtain ⟨e9, h⟩ := h
    subst e9
    split at h
    · exact u3_nx (ia_if_eq h).2 rfl u3_rf
    · cases h
  case h_37 =>
    replace h := u2_t1 h
    obtain ⟨e9, h⟩ := h
    subst e9
    split at h
    · exact u3_br List.mem_cons_self h
    · cases h
  case h_38 =>
    replace h := u2_t1 h
    obtain ⟨e9, h⟩ := h
    subst e9
    split at h
    · exact u3_br List.mem_cons_self h
    · cases h
  case h_41 =>
    exact u3_lks h
  case h_42 =>
    replace h := u2_t1 h
    obtain ⟨e9, h⟩ := h
    subst e9
    split at h
    · split at h
      · split at h
        · exact u3_nx (ia_if_eq h).2 rfl u3_rf
        · cases h
      · cases h
    · cases h
  case h_43 =>
    replace h := u2_t1 h
    obtain ⟨e9, h⟩ := h
    subst e9
    unfold u3_in at hok
    split at h
    · split at h
      · rename_i hp
        simp only [hp] at hok
        split at h
        · rename_i c hc
          have hc2 := (ia_if_eq h).1
          have h := (ia_if_eq h).2
          split at h
          · rename_i w' hw
            rw [Bool.and_eq_true] at hc2
            have e5 := ia_beq hc2.1
            refine u3_nx h rfl (u3_put hc ?_ hw)
            rw [e5]
            exact (Bool.not_eq_true' _).mp hok
          · cases h
        · cases h
      · cases h
    · cases h
  case h_46 =>
    replace h := u2_t1 h
    obtain ⟨e9, h⟩ := h
    subst e9
    split at h
    · exact u3_al h
    · exact u3_al h
  case h_47 =>
    replace h := u2_t1 h
    obtain ⟨e9, h⟩ := h
    subst e9
    split at h
    · exact u3_al h
    · exact u3_al h
  case h_49 =>
    replace h := u2_t1 h
    obtain ⟨e9, h⟩ := h
    subst e9
    unfold cm_asl at h
    split at h
    · split at h
      · exact u3_nx (ia_if_eq h).2 rfl u3_rf
      · cases h
    · cases h
  case h_50 =>
    replace h := u2_t1 h
    obtain ⟨e9, h⟩ := h
    subst e9
    split at h
    · exact u3_as hg (by decide) h
    · exact u3_as hg (by decide) h
  case h_51 =>
    replace h := u2_t1 h
    obtain ⟨e9, h⟩ := h
    subst e9
    split at h
    · split at h
      · exact u3_nx (ia_if_eq h).2 rfl u3_rf
      · cases h
    · cases h
  case h_52 =>
    replace h := u2_t1 h
    obtain ⟨e9, h⟩ := h
    subst e9
    split at h
    · exact u3_nx h rfl u3_rf
    · cases h
  case h_53 =>
    replace h := u2_t1 h
    obtain ⟨e9, h⟩ := h
    subst e9
    split at h
    · exact u3_nx h rfl u3_rf
    · cases h
  case h_54 =>
    replace h := u2_t1 h
    obtain ⟨e9, h⟩ := h
    subst e9
    split at h
    · exact u3_nx (ia_if_eq h).2 rfl u3_rf
    · cases h
noncomputable def u3_pc (B : List (Nat × Nat)) (S : List Nat) (y : Nat) (P : List Nat) (pc : Nat) : Bool := match decode (ia_code y) pc with
  | .ok (ins, len) => u3_in B y ins && (u2_cl y ins S && ((u2_rt ins || P.contains (pc + len)) && (P.contains (pc + 3) || !(u2_iv ins)) && (u2_off ins).all (u2_tg pc P)))
  | .error _ => true
noncomputable def u3_ck (B : List (Nat × Nat)) (S : List Nat) (y : Nat) (P : List Nat) : Bool := P.contains 0 && P.all (u3_pc B S y P)
theorem u3_run {B : List (Nat × Nat)} {C : Nat → List cm_V → cm_W → cm_O → Prop} {S P : List Nat} {y : Nat} (hg : u3_g B = true) (hS : ∀ y2, y2 ∈ S → ∀ as w o, C y2 as w o → u3_F B w o.2) (hk : P.all (u3_pc B S y P) = true) : ∀ (F pc : Nat) (lv : cm_L) (st : List cm_V) (w : cm_W) (o : cm_O), pc ∈ P → cm_R C y F pc lv st w o → u3_F B w o.2 := by
  have hall := List.all_eq_true.mp hk
  intro F
  induction F with
  | zero => exact fun _ _ _ _ _ _ h => absurd h id
  | succ F ih =>
    intro pc lv st w o hp h
    obtain ⟨ins, len, hd, h⟩ := h
    have hpc := hall pc hp
    unfold u3_pc at hpc
    rw [hd] at hpc
    simp only [Bool.and_eq_true, Bool.or_eq_true] at hpc
    obtain ⟨k1, k2, ⟨k3, k4⟩, k5⟩ := hpc
    rcases h with ⟨q, g1, g2⟩ | ⟨y2, as, t, r, w1, g1, g2, g3⟩ | ⟨r, g1, g2⟩
    · have hu := u3_do hg k1 g1
      have hq : q.1 ∈ P := by
        rcases hu.1 with e | ⟨z, hz, e⟩
        · rcases k3 with k3 | k3
          · exact absurd (u2_rd k3 g1) id
          · rw [e]
            simpa using k3
        · have k6 := List.all_eq_true.mp k5 z hz
          unfold u2_tg at k6
          rw [e] at k6
          simpa using k6
      exact u3_F_tr hu.2 (ih q.1 q.2.1 q.2.2.1 q.2.2.2 o hq g2)
    · have hc := u2_cc k2 g1
      have hq : pc + 3 ∈ P := by
        rcases k4 with k4 | k4
        · simpa using k4
        · rw [hc.2] at k4
          cases k4
      exact u3_F_tr (hS y2 hc.1 as w (r, w1) g2) (ih (pc + 3) lv (cm_back r t) w1 o hq g3)
    · rw [g2]
      exact u3_rf
theorem u3_all {B : List (Nat × Nat)} {A : List (Nat × List Nat)} (hg : u3_g B = true) (hA : ∀ e, e ∈ A → u3_ck B (A.map (fun z => z.1)) e.1 e.2 = true) : ∀ (d y : Nat), y ∈ A.map (fun z => z.1) → ∀ (as : List cm_V) (w : cm_W) (o : cm_O), cm_C d y as w o → u3_F B w o.2 := by
  intro d
  induction d with
  | zero => exact fun _ _ _ _ _ h => absurd h id
  | succ d ih =>
    intro y hy as w o h
    obtain ⟨e, he, rfl⟩ := List.mem_map.mp hy
    rcases h with h | ⟨_, F, h⟩
    · rcases h with ⟨_, k, _, rfl⟩ | ⟨_, k, _, rfl⟩
      · exact u3_rf
      · exact u3_rf
    · have hc := hA e he
      refine u3_run hg (C := cm_C d) (fun y2 h2 as2 w2 o2 g => ?_) (by unfold u3_ck at hc; rw [Bool.and_eq_true] at hc; exact hc.2) F 0 _ _ w o ?_ h
      · exact ih y2 h2 as2 w2 o2 g
      · unfold u3_ck at hc
        rw [Bool.and_eq_true] at hc
        simpa using hc.1

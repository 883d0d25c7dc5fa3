/-! ## methods that leave the rows of longs as they are (wip/p4/gen9vv.py) -/
def u2_F (w w' : cm_W) : Prop := ∀ k i, u2_L k → w'.2 k i = w.2 k i
theorem u2_F_tr {w w1 w2 : cm_W} (h1 : u2_F w w1) (h2 : u2_F w1 w2) : u2_F w w2 := fun k i h => (h2 k i h).trans (h1 k i h)
/-- whom an instruction may call -/
noncomputable def u2_cl (y : Nat) (ins : Instr) (S : List Nat) : Bool := match ins with
  | .invokevirtual i => (match ia_pl (ia_cls y) i with
    | some (1, y2, _, _, _) => S.contains y2
    | _ => true)
  | .invokestatic i => (match ia_pl (ia_cls y) i with
    | some (1, y2, _, _, _) => S.contains y2
    | _ => true)
  | _ => true
def u2_iv (ins : Instr) : Bool := match ins with
  | .invokevirtual _ => true
  | .invokestatic _ => true
  | _ => false
def u2_rt (ins : Instr) : Bool := match ins with
  | .ireturn => true
  | .lreturn => true
  | .return_ => true
  | _ => false
def u2_tg (pc : Nat) (P : List Nat) (o : Int) : Bool := match Int.add (Int.ofNat pc) o with
  | .ofNat t => P.contains t
  | .negSucc _ => true
noncomputable def u2_pc (S : List Nat) (y : Nat) (P : List Nat) (pc : Nat) : Bool := match decode (ia_code y) pc with
  | .ok (ins, len) => u2_in y ins && (u2_cl y ins S && ((u2_rt ins || P.contains (pc + len)) && (P.contains (pc + 3) || !(u2_iv ins)) && (u2_off ins).all (u2_tg pc P)))
  | .error _ => true
noncomputable def u2_ck (S : List Nat) (y : Nat) (P : List Nat) : Bool := P.contains 0 && P.all (u2_pc S y P)
theorem u2_rd {y pc len : Nat} {ins : Instr} {lv : cm_L} {st : List cm_V} {w : cm_W} {q : cm_A} (hr : u2_rt ins = true) (h : cm_do y pc ins len lv st w = some q) : False := by
  unfold u2_rt at hr
  split at hr
  · exact absurd (show none = some q from h) (by intro z; cases z)
  · exact absurd (show none = some q from h) (by intro z; cases z)
  · exact absurd (show none = some q from h) (by intro z; cases z)
  · cases hr
theorem u2_cc {y len : Nat} {ins : Instr} {S : List Nat} {st as t : List cm_V} {y2 : Nat} (hc : u2_cl y ins S = true) (h : cm_call y ins len st = some (y2, as, t)) : y2 ∈ S ∧ u2_iv ins = true := by
  unfold cm_call at h
  unfold u2_cl at hc
  split at h
  · have h := (ia_if_eq h).2
    unfold cm_cal at h
    split at h
    · rename_i hp
      simp only [hp] at hc
      have h := (ia_if_eq h).2
      cases h
      exact ⟨by simpa using hc, rfl⟩
    · cases h
  · have h := (ia_if_eq h).2
    unfold cm_cal at h
    split at h
    · rename_i hp
      simp only [hp] at hc
      have h := (ia_if_eq h).2
      cases h
      exact ⟨by simpa using hc, rfl⟩
    · cases h
  · cases h
theorem u2_run {C : Nat → List cm_V → cm_W → cm_O → Prop} {S P : List Nat} {y : Nat} (hS : ∀ y2, y2 ∈ S → ∀ as w o, C y2 as w o → u2_F w o.2) (hk : u2_ck S y P = true) : ∀ (F pc : Nat) (lv : cm_L) (st : List cm_V) (w : cm_W) (o : cm_O), pc ∈ P → cm_R C y F pc lv st w o → u2_F w o.2 := by
  unfold u2_ck at hk
  rw [Bool.and_eq_true] at hk
  have hall := List.all_eq_true.mp hk.2
  intro F
  induction F with
  | zero => exact fun _ _ _ _ _ _ h => absurd h id
  | succ F ih =>
    intro pc lv st w o hp h
    obtain ⟨ins, len, hd, h⟩ := h
    have hpc := hall pc hp
    unfold u2_pc at hpc
    rw [hd] at hpc
    simp only [Bool.and_eq_true, Bool.or_eq_true] at hpc
    obtain ⟨k1, k2, ⟨k3, k4⟩, k5⟩ := hpc
    rcases h with ⟨q, g1, g2⟩ | ⟨y2, as, t, r, w1, g1, g2, g3⟩ | ⟨r, g1, g2⟩
    · have hu := u2_do k1 g1
      have hq : q.1 ∈ P := by
        rcases hu.1 with e | ⟨z, hz, e⟩
        · rcases k3 with k3 | k3
          · exact absurd (u2_rd k3 g1) id
          · rw [e]
            simpa using k3
        · have k6 := List.all_eq_true.mp k5 z hz
          unfold u2_tg at k6
          rw [e] at k6
          simpa using k6
      exact u2_F_tr hu.2 (ih q.1 q.2.1 q.2.2.1 q.2.2.2 o hq g2)
    · have hc := u2_cc k2 g1
      have hq : pc + 3 ∈ P := by
        rcases k4 with k4 | k4
        · simpa using k4
        · rw [hc.2] at k4
          cases k4
      exact u2_F_tr (hS y2 hc.1 as w (r, w1) g2) (ih (pc + 3) lv (cm_back r t) w1 o hq g3)
    · rw [g2]
      exact fun _ _ _ => rfl
/-! ### two that copy rows of ints -/
noncomputable def kx_f (ci sl : Nat) : Nat := match cm_Sh.all (fun c => !(Nat.beq c.1 ci) || (match ia_at c.2.2 sl with
    | some (z + 3) => (match ia_at cm_Sh z with
      | some c2 => Nat.beq c2.1 50
      | none => false)
    | _ => false)) with
  | true => 50
  | false => 0
noncomputable def kx (y : Nat) : Nat → Nat → List Nat → Bool
  | 0, _, _ => false
  | f + 1, pc, ks => match decode (ia_code y) pc with
    | .ok (.aload_n _, _) => kx y f (pc + 1) (0 :: ks)
    | .ok (.iconst _, _) => kx y f (pc + 1) (0 :: ks)
    | .ok (.bipush _, _) => kx y f (pc + 2) (0 :: ks)
    | .ok (.getfield i, _) => (match ks, ia_pl (ia_cls y) i with
      | _ :: t, some (0, ci, sl, _, _) => kx y f (pc + 3) (kx_f ci sl :: t)
      | _, _ => false)
    | .ok (.putfield i, _) => (match ks, ia_pl (ia_cls y) i with
      | _ :: _ :: t, some (0, ci, _, _, _) => Nat.blt ci 13 && kx y f (pc + 3) t
      | _, _ => false)
    | .ok (.invokestatic i, _) => (match ks, ia_pl (ia_cls y) i with
      | _ :: _ :: k :: _ :: _ :: t, some (3, _, _, _, _) => Nat.beq k 50 && kx y f (pc + 3) t
      | _, _ => false)
    | .ok (.return_, _) => true
    | _ => false
def kx_v (k : Nat) (v : cm_V) : Prop := k = 0 ∨ ∃ z c, v = .inr (.inr (some z)) ∧ cm_sh z = some c ∧ c.1 = k
def kx_m : List Nat → List cm_V → Prop
  | [], _ => True
  | k :: ks, v :: st => kx_v k v ∧ kx_m ks st
  | _ :: _, [] => False
theorem kx_m_c {k : Nat} {ks : List Nat} {v : cm_V} {st : List cm_V} (a : kx_v k v) (b : kx_m ks st) : kx_m (k :: ks) (v :: st) := And.intro a b
theorem kx_m_t {k : Nat} {ks : List Nat} {v : cm_V} {st : List cm_V} (h : kx_m (k :: ks) (v :: st)) : kx_v k v ∧ kx_m ks st := h
theorem kx_fv {ci sl k : Nat} {c : Nat × Nat × List Nat} {w : cm_W} (hc : cm_sh k = some c) (he : c.1 = ci) : kx_v (kx_f ci sl) (cm_v w k sl (cm_code c sl)) := by
  unfold kx_f
  split
  · rename_i ha
    have hm : c ∈ cm_Sh := u2_at hc
    have h := List.all_eq_true.mp ha c hm
    rw [Bool.or_eq_true] at h
    rcases h with h | h
    · rw [he, Nat.beq_refl] at h
      cases h
    · split at h
      · rename_i z hz
        split at h
        · rename_i c2 hc2
          have e : cm_code c sl = z + 3 := by
            unfold cm_code
            rw [hz]
          rw [e]
          exact .inr ⟨z, c2, rfl, hc2, ia_beq h⟩
        · cases h
      · cases h
  · exact .inl rfl
theorem u2_in_pf {y i ci a b c : Nat} (hp : ia_pl (ia_cls y) i = some (0, ci, a, b, c)) (h : Nat.blt ci 13 = true) : u2_in y (.putfield i) = true := by
  show (match ia_pl (ia_cls y) i with
    | some (0, ci, _, _, _) => Nat.blt ci 13
    | _ => true) = true
  rw [hp]
  exact h
theorem kx_run {C : Nat → List cm_V → cm_W → cm_O → Prop} {y : Nat} : ∀ (F f pc : Nat) (ks : List Nat) (lv : cm_L) (st : List cm_V) (w : cm_W) (o : cm_O), kx y f pc ks = true → kx_m ks st → cm_R C y F pc lv st w o → u2_F w o.2 := by
  intro F
  induction F with
  | zero => exact fun _ _ _ _ _ _ _ _ _ h => absurd h id
  | succ F ih =>
    intro f pc ks lv st w o hk hm h
    obtain ⟨ins, len, hd, h⟩ := h
    cases f with
    | zero => cases hk
    | succ f =>
      rw [kx, hd] at hk
      split at hk
      · rename_i i ln e
        cases e
        rcases h with ⟨q, g1, g2⟩ | ⟨y2, as, t, r, w1, g1, g2, g3⟩ | ⟨r, g1, g2⟩
        · have g1 := (ia_if_eq (show ia_if (Nat.beq len 1) (cm_ld 2 i.val 1 pc lv st w) = some q from g1)).2
          unfold cm_ld at g1
          split at g1
          · have g1 := (ia_if_eq g1).2
            cases g1
            exact ih f _ _ _ _ _ o hk (kx_m_c (.inl rfl) hm) g2
          · cases g1
        · exact absurd (show none = some _ from g1) (by intro z; cases z)
        · exact absurd (show none = some _ from g1) (by intro z; cases z)
      · rename_i i ln e
        cases e
        rcases h with ⟨q, g1, g2⟩ | ⟨y2, as, t, r, w1, g1, g2, g3⟩ | ⟨r, g1, g2⟩
        · have g1 := (ia_if_eq (show ia_if (Nat.beq len 1) (cm_nx (Nat.add pc 1) lv (.inl (Int32.ofInt i) :: st) w) = some q from g1)).2
          cases g1
          exact ih f _ _ _ _ _ o hk (kx_m_c (.inl rfl) hm) g2
        · exact absurd (show none = some _ from g1) (by intro z; cases z)
        · exact absurd (show none = some _ from g1) (by intro z; cases z)
      · rename_i i ln e
        cases e
        rcases h with ⟨q, g1, g2⟩ | ⟨y2, as, t, r, w1, g1, g2, g3⟩ | ⟨r, g1, g2⟩
        · have g1 := (ia_if_eq (show ia_if (Nat.beq len 2) (cm_nx (Nat.add pc 2) lv (.inl (Int8.ofInt i).toInt32 :: st) w) = some q from g1)).2
          cases g1
          exact ih f _ _ _ _ _ o hk (kx_m_c (.inl rfl) hm) g2
        · exact absurd (show none = some _ from g1) (by intro z; cases z)
        · exact absurd (show none = some _ from g1) (by intro z; cases z)
      · rename_i i ln e
        cases e
        split at hk
        · rename_i k0 t ci sl c1 c2 hp
          rcases h with ⟨q, g1, g2⟩ | ⟨y2, as, t2, r, w1, g1, g2, g3⟩ | ⟨r, g1, g2⟩
          · have g1 := (ia_if_eq (show ia_if (Nat.beq len 3) (match st with
              | .inr (.inr (some k)) :: t => (match ia_pl (ia_cls y) i with
                | some (0, ci, sl, _, _) => (match cm_sh k with
                  | some c => ia_if (Nat.beq c.1 ci && Nat.blt sl c.2.1) (cm_nx (Nat.add pc 3) lv (cm_v w k sl (cm_code c sl) :: t) w)
                  | none => none)
                | _ => none)
              | _ => none) = some q from g1)).2
            split at g1
            · rename_i k t3
              rw [hp] at g1
              simp only at g1
              split at g1
              · rename_i c hc
                have gc := (ia_if_eq g1).1
                have g1 := (ia_if_eq g1).2
                rw [Bool.and_eq_true] at gc
                cases g1
                exact ih f _ _ _ _ _ o hk (kx_m_c (kx_fv hc (ia_beq gc.1)) (kx_m_t hm).2) g2
              · cases g1
            · cases g1
          · exact absurd (show none = some _ from g1) (by intro z; cases z)
          · exact absurd (show none = some _ from g1) (by intro z; cases z)
        · cases hk
      · rename_i i ln e
        cases e
        split at hk
        · rename_i k0 k1 t ci sl c1 c2 hp
          rw [Bool.and_eq_true] at hk
          rcases h with ⟨q, g1, g2⟩ | ⟨y2, as, t2, r, w1, g1, g2, g3⟩ | ⟨r, g1, g2⟩
          · have hu := u2_do (y := y) (ins := .putfield i) (u2_in_pf hp hk.1) g1
            have g1 := (ia_if_eq (show ia_if (Nat.beq len 3) (match st with
              | v :: .inr (.inr (some k)) :: t => (match ia_pl (ia_cls y) i with
                | some (0, ci, sl, kd, _) => (match cm_sh k with
                  | some c => ia_if (Nat.beq c.1 ci && (ia_fit y ci kd (cm_e v) && Nat.blt sl c.2.1)) (match cm_put w k sl (cm_code c sl) v with
                    | some w' => cm_nx (Nat.add pc 3) lv t w'
                    | none => none)
                  | none => none)
                | _ => none)
              | _ => none) = some q from g1)).2
            split at g1
            · rename_i v k t3
              rw [hp] at g1
              simp only at g1
              split at g1
              · have g1 := (ia_if_eq g1).2
                split at g1
                · cases g1
                  exact u2_F_tr hu.2 (ih f _ _ _ _ _ o hk.2 (kx_m_t (kx_m_t hm).2).2 g2)
                · cases g1
              · cases g1
            · cases g1
          · exact absurd (show none = some _ from g1) (by intro z; cases z)
          · exact absurd (show none = some _ from g1) (by intro z; cases z)
        · cases hk
      · rename_i i ln e
        cases e
        split at hk
        · rename_i k0 k1 k2 k3 k4 t a1 a2 a3 a4 hp
          rw [Bool.and_eq_true] at hk
          rcases h with ⟨q, g1, g2⟩ | ⟨y2, as, t2, r, w1, g1, g2, g3⟩ | ⟨r, g1, g2⟩
          · have g1 := (ia_if_eq (show ia_if (Nat.beq len 3) (cm_inv y i pc lv st w) = some q from g1)).2
            unfold cm_inv at g1
            rw [hp] at g1
            simp only at g1
            split at g1
            · rename_i kk dp d sp s t3 e9
              split at g1
              · split at g1
                · have g1 := (ia_if_eq g1).2
                  cases g1
                  have hd2 : ¬ u2_L d := by
                    intro ⟨c, e1, e2⟩
                    rcases (kx_m_t (kx_m_t (kx_m_t hm).2).2).1 with z | ⟨z, c9, z1, z2, z3⟩
                    · have := ia_beq hk.1
                      omega
                    · cases z1
                      rw [e1] at z2
                      cases z2
                      have := ia_beq hk.1
                      omega
                  refine u2_F_tr (fun a b ha => ?_) (ih f _ _ _ _ _ o hk.2 (kx_m_t (kx_m_t (kx_m_t (kx_m_t (kx_m_t hm).2).2).2).2).2 g2)
                  exact if_neg (fun (z : a = d ∧ b < _) => hd2 (z.1 ▸ ha))
                · cases g1
              · cases g1
            · cases g1
          · have g1 := (ia_if_eq (show ia_if (Nat.beq len 3) (cm_cal y 1 i st) = some (y2, as, t2) from g1)).2
            unfold cm_cal at g1
            rw [hp] at g1
            cases g1
          · exact absurd (show none = some _ from g1) (by intro z; cases z)
        · cases hk
      · rename_i ln e
        cases e
        rcases h with ⟨q, g1, g2⟩ | ⟨y2, as, t, r, w1, g1, g2, g3⟩ | ⟨r, g1, g2⟩
        · exact absurd (show none = some _ from g1) (by intro z; cases z)
        · exact absurd (show none = some _ from g1) (by intro z; cases z)
        · rw [g2]
          exact fun _ _ _ => rfl
      · cases hk
theorem kx_ok {y f : Nat} (hy : y ≠ 176 ∧ y ≠ 179) (hk : kx y f 0 [] = true) : ∀ (d : Nat) (as : List cm_V) (w : cm_W) (o : cm_O), cm_C d y as w o → u2_F w o.2 := by
  intro d as w o h
  cases d with
  | zero => exact absurd h id
  | succ d =>
    rcases h with h | ⟨_, F, h⟩
    · rcases h with ⟨e, _⟩ | ⟨e, _⟩
      · exact absurd e hy.1
      · exact absurd e hy.2
    · exact kx_run F f 0 [] _ _ w o hk trivial h
theorem u2_all {A : List (Nat × List Nat)} {X : List Nat} (hA : ∀ e, e ∈ A → u2_ck (A.map (fun z => z.1) ++ X) e.1 e.2 = true) (hX : ∀ y, y ∈ X → ∀ (d : Nat) (as : List cm_V) (w : cm_W) (o : cm_O), cm_C d y as w o → u2_F w o.2) : ∀ (d y : Nat), y ∈ A.map (fun z => z.1) → ∀ (as : List cm_V) (w : cm_W) (o : cm_O), cm_C d y as w o → u2_F w o.2 := by
  intro d
  induction d with
  | zero => exact fun _ _ _ _ _ h => absurd h id
  | succ d ih =>
    intro y hy as w o h
    obtain ⟨e, he, rfl⟩ := List.mem_map.mp hy
    rcases h with h | ⟨_, F, h⟩
    · rcases h with ⟨_, k, _, rfl⟩ | ⟨_, k, _, rfl⟩
      · exact fun _ _ _ => rfl
      · exact fun _ _ _ => rfl
    · have hc := hA e he
      refine u2_run (C := cm_C d) (fun y2 h2 as2 w2 o2 g => ?_) hc F 0 _ _ w o ?_ h
      · rcases List.mem_append.mp h2 with h3 | h3
        · exact ih y2 h3 as2 w2 o2 g
        · exact hX y2 h3 d as2 w2 o2 g
      · unfold u2_ck at hc
        rw [Bool.and_eq_true] at hc
        simpa using hc.1
set_option maxRecDepth 100000 in
theorem kx_65 : kx 65 200 0 [] = true := by decide +kernel
set_option maxRecDepth 100000 in
theorem kx_72 : kx 72 200 0 [] = true := by decide +kernel

/-! ## the checker is right: slots, origins -/
theorem sv_nx_eq (k : sv_K) (pc : Nat) (lv : sv_L) (st : List sv_V) (fs : sv_F) : sv_nx k pc lv st fs = k pc lv st fs := ia_frc_eq _ _
theorem sv_frc_eq (a : sv_I) (f : sv_I → Bool) : sv_frc a f = f a := by
  unfold sv_frc
  rw [ia_frc_eq, ia_frc_eq, ia_frc_eq, ia_frc_eq, ia_frc_eq]
section SVT
variable {Re Rh : Nat} {O O' : Nat → Int32 → Prop} {w w' : cm_W} {G : sv_GT}
theorem sv_vr_int {a : sv_I} {c : cm_V} (h : sv_vr Re Rh O (.inl a) c) : ∃ x, c = .inl x ∧ sv_i Re Rh a x ∧ (a.2.2.2.2 = 0 ∨ O a.2.2.2.2 x) := by
  match c, h with
  | .inl x, h => exact ⟨x, rfl, h.1, h.2⟩
theorem sv_vr_long {c : cm_V} (h : sv_vr Re Rh O (.inr none) c) : ∃ x, c = .inr (.inl x) := by
  match c, h with
  | .inr (.inl x), _ => exact ⟨x, rfl⟩
theorem sv_vr_ref {k : Nat} {c : cm_V} (h : sv_vr Re Rh O (.inr (some k)) c) : c = .inr (.inr (some k)) := by
  match c, h with
  | .inr (.inr (some j)), h => have h' : j = k := h; rw [h']
theorem sv_cons {α β : Type} {P : α → β → Prop} {a : α} {l : List α} {m : List β} (h : sv_all2 P (a :: l) m) : ∃ b t, m = b :: t ∧ P a b ∧ sv_all2 P l t := by
  match m, h with
  | b :: t, h => exact ⟨b, t, rfl, h.1, h.2⟩
theorem sv_nil {α β : Type} {P : α → β → Prop} {m : List β} (h : sv_all2 P [] m) : m = [] := by
  match m, h with
  | [], _ => rfl
theorem sv_vr_o {v : sv_V} {c : cm_V} (h : sv_vr Re Rh O v c) (hO : ∀ og x, O og x → O' og x) : sv_vr Re Rh O' v c := by
  match v, c, h with
  | .inl a, .inl x, h => exact ⟨h.1, h.2.imp id (hO _ _)⟩
  | .inr none, .inr (.inl _), _ => trivial
  | .inr (some k), .inr (.inr (some j)), h => exact h
theorem sv_v0_of {v : sv_V} {c : cm_V} (h : sv_vr Re Rh O v c) : sv_v0 v c := by
  match v, c, h with
  | .inl a, .inl x, h => exact h.1.1
  | .inr none, .inr (.inl _), _ => trivial
  | .inr (some k), .inr (.inr (some j)), h => exact h
/-- origins forgotten -/
theorem sv_cs_ok {st : List sv_V} {k : List sv_V → Bool} (h : sv_cs st k = true) : ∃ st', (∀ (O O' : Nat → Int32 → Prop) (cst : List cm_V), sv_all2 (sv_vr Re Rh O) st cst → sv_all2 (sv_vr Re Rh O') st' cst) ∧ k st' = true := by
  obtain ⟨st', h1, h2⟩ := sv_mapK_ok (f := sv_c0) (R := fun v v' => ∀ (O O' : Nat → Int32 → Prop) c, sv_vr Re Rh O v c → sv_vr Re Rh O' v' c) (fun v k h => by
    match v, h with
    | .inl (lo, hi, de, dh, og), h => exact ⟨_, fun O O' c hc => by obtain ⟨x, rfl, q1, -⟩ := sv_vr_int hc; exact ⟨q1, Or.inl rfl⟩, h⟩
    | .inr o, h => exact ⟨_, fun O O' c hc => by
        match o, c, hc with
        | none, .inr (.inl _), _ => trivial
        | some k, .inr (.inr (some j)), hc => exact hc, h⟩) st k h
  exact ⟨st', fun O O' cst hc => sv_a2_tr (fun a c b hR hP => hR O O' b hP) h1 hc, h2⟩
theorem sv_cl_ok {lv : sv_L} {k : sv_L → Bool} (h : sv_cl lv k = true) : ∃ lv', (∀ (O O' : Nat → Int32 → Prop) (clv : cm_L), sv_all2 (sv_ov (sv_vr Re Rh O)) lv clv → sv_all2 (sv_ov (sv_vr Re Rh O')) lv' clv) ∧ k lv' = true := by
  obtain ⟨lv', h1, h2⟩ := sv_mapK_ok (f := sv_c1) (R := fun v v' => ∀ (O O' : Nat → Int32 → Prop) c, sv_ov (sv_vr Re Rh O) v c → sv_ov (sv_vr Re Rh O') v' c) (fun v k h => by
    match v, h with
    | some (.inl (lo, hi, de, dh, og)), h => exact ⟨_, fun O O' c hc => by
        match c, hc with
        | some c, hc =>
          obtain ⟨x, rfl, q1, -⟩ := sv_vr_int hc
          exact ⟨q1, Or.inl rfl⟩, h⟩
    | some (.inr o), h => exact ⟨_, fun O O' c hc => by
        match o, c, hc with
        | none, some (.inr (.inl _)), _ => trivial
        | some k, some (.inr (.inr (some j))), hc => exact hc, h⟩
    | none, h => exact ⟨_, fun O O' c hc => by
        match c, hc with
        | none, _ => trivial
        | some (.inl _), _ => trivial
        | some (.inr (.inr _)), _ => trivial, h⟩) lv k h
  exact ⟨lv', fun O O' clv hc => sv_a2_tr (fun a c b hR hP => hR O O' b hP) h1 hc, h2⟩
theorem sv_ev_ok {clv : cm_L} {v : sv_V} {k : sv_V → Bool} (h : sv_ev v k = true) : ∃ v', (∀ c, sv_vr Re Rh (fun og x => sv_os w og x ∨ sv_ol clv og x) v c → sv_vr Re Rh (sv_os w) v' c) ∧ k v' = true := by
  match v, h with
  | .inl (lo, hi, de, dh, og), h =>
    rcases sv_cnd h with ⟨_, h⟩ | ⟨ho, h⟩
    · exact ⟨_, fun c hc => by obtain ⟨x, rfl, q1, -⟩ := sv_vr_int hc; exact ⟨q1, Or.inl rfl⟩, h⟩
    · refine ⟨_, fun c hc => ?_, h⟩
      obtain ⟨x, rfl, q1, q2⟩ := sv_vr_int hc
      refine ⟨q1, ?_⟩
      rcases q2 with q2 | q2 | ⟨j, q2, -⟩
      · exact Or.inl q2
      · exact Or.inr q2
      · have h3 : Nat.beq (og % 2) 1 = false := ho
        have h4 : og = 2 * j + 1 := q2
        rw [show og % 2 = 1 from by omega] at h3
        cases h3
  | .inr o, h => exact ⟨_, fun c hc => by
      match o, c, hc with
      | none, .inr (.inl _), _ => trivial
      | some k, .inr (.inr (some j)), hc => exact hc, h⟩
/-! ### slots -/
theorem sv_fs_map {fs fs' : sv_F} (h : sv_all2 (fun f f' => sv_f1 Re Rh w f → sv_f1 Re Rh w' f') fs fs') (hf : sv_fs Re Rh fs w) : sv_fs Re Rh fs' w' := by
  induction fs generalizing fs' with
  | nil => rw [sv_nil h]; intro f hf; cases hf
  | cons a l ih =>
    obtain ⟨b, t, rfl, h1, h2⟩ := sv_cons h
    intro f hm
    rcases List.mem_cons.mp hm with rfl | hm
    · exact h1 (hf a List.mem_cons_self)
    · exact ih h2 (fun g hg => hf g (List.mem_cons_of_mem _ hg)) f hm
theorem sv_meet {lo hi : Nat} {p : sv_P} {x : Int32} (h1 : sv_in (lo, hi) x) (h2 : sv_in p x) : sv_in (cond (Nat.ble lo p.1) p.1 lo, cond (Nat.ble hi p.2) hi p.2) x := by
  obtain ⟨a1, a2⟩ := h1
  obtain ⟨b1, b2⟩ := h2
  constructor
  · show cond (Nat.ble lo p.1) p.1 lo ≤ _
    cases Nat.ble lo p.1
    · exact a1
    · exact b1
  · show _ ≤ cond (Nat.ble hi p.2) hi p.2
    cases Nat.ble hi p.2
    · exact b2
    · exact a2
theorem sv_mapK_fs {g : (Nat × Nat × Nat × Nat × Nat) → (Nat × Nat × Nat × Nat × Nat → Bool) → Bool} (hg : ∀ f k, sv_f1 Re Rh w f → g f k = true → ∃ f', sv_f1 Re Rh w' f' ∧ k f' = true) : ∀ (fs : sv_F) (k : sv_F → Bool), sv_fs Re Rh fs w → sv_mapK g fs k = true → ∃ fs', sv_fs Re Rh fs' w' ∧ k fs' = true
  | [], k, _, h => ⟨[], (fun f hf => absurd hf List.not_mem_nil), h⟩
  | a :: l, k, hl, h => by
    obtain ⟨a', h1, h2⟩ := hg a _ (hl a List.mem_cons_self) h
    obtain ⟨l', h3, h4⟩ := sv_mapK_fs hg l _ (fun f hf => hl f (List.mem_cons_of_mem _ hf)) h2
    exact ⟨a' :: l', fun f hf => by
      rcases List.mem_cons.mp hf with rfl | hf
      · exact h1
      · exact h3 f hf, h4⟩
theorem sv_fm_ok {q : Nat} {p : sv_P} (hp : sv_in p (sv_at w q)) (f : Nat × Nat × Nat × Nat × Nat) (k : Nat × Nat × Nat × Nat × Nat → Bool) (hf : sv_f1 Re Rh w f) (h : sv_fm q p f k = true) : ∃ f', sv_f1 Re Rh w f' ∧ k f' = true := by
  unfold sv_fm at h
  rcases sv_cnd h with ⟨hq, h⟩ | ⟨_, h⟩
  · rw [ia_frc_eq, ia_frc_eq] at h
    have e := ia_beq hq
    unfold sv_f1 at hf
    rw [e] at hf
    have hm := sv_meet hf.1 hp
    rw [show Nat.ble (cond (Nat.ble f.2.1 p.1) p.1 f.2.1) (cond (Nat.ble f.2.2.1 p.2) f.2.2.1 p.2) = true from Nat.ble_eq.mpr (Nat.le_trans hm.1 hm.2)] at h
    rw [cond_true] at h
    exact ⟨(q, cond (Nat.ble f.2.1 p.1) p.1 f.2.1, cond (Nat.ble f.2.2.1 p.2) f.2.2.1 p.2, f.2.2.2.1, f.2.2.2.2), ⟨hm, hf.2.1, hf.2.2⟩, h⟩
  · exact ⟨f, hf, h⟩
theorem sv_rf_ok {clv : cm_L} {og : Nat} {p : sv_P} {x : Int32} {lv : sv_L} {fs : sv_F} {k : sv_L → sv_F → Bool} (h : sv_rf og p lv fs k = true) (ho : og = 0 ∨ sv_os w og x ∨ sv_ol clv og x) (hp : sv_in p x) (hl : sv_all2 (sv_ov (sv_vr Re Rh (sv_os w))) lv clv) (hf : sv_fs Re Rh fs w) : ∃ lv' fs', sv_all2 (sv_ov (sv_vr Re Rh (sv_os w))) lv' clv ∧ sv_fs Re Rh fs' w ∧ k lv' fs' = true := by
  have slot : ∀ (o2 : Nat) (lv : sv_L), sv_os w o2 x → sv_all2 (sv_ov (sv_vr Re Rh (sv_os w))) lv clv → ia_frc (Nat.sub (Nat.div o2 2) 1) (fun q => sv_mapK (sv_fm q p) fs (fun fs => k lv fs)) = true → ∃ lv' fs', sv_all2 (sv_ov (sv_vr Re Rh (sv_os w))) lv' clv ∧ sv_fs Re Rh fs' w ∧ k lv' fs' = true := fun o2 lv hos hl h => by
    rw [ia_frc_eq] at h
    obtain ⟨q, e, hx⟩ := hos
    have e2 : Nat.sub (Nat.div o2 2) 1 = q := by
      show o2 / 2 - 1 = q
      omega
    rw [e2] at h
    obtain ⟨fs', h1, h2⟩ := sv_mapK_fs (sv_fm_ok (Re := Re) (Rh := Rh) (by rw [hx]; exact hp)) fs _ hf h
    exact ⟨lv, fs', hl, h1, h2⟩
  unfold sv_rf at h
  rcases sv_cnd h with ⟨_, h⟩ | ⟨h0, h⟩
  · exact ⟨lv, fs, hl, hf, h⟩
  · rcases sv_cnd h with ⟨h1, h⟩ | ⟨h1, h⟩
    · have e1 : og % 2 = 1 := ia_beq h1
      split at h
      · rename_i lo hi de dh o2 hat
        rw [ia_frc_eq, ia_frc_eq] at h
        obtain ⟨b, hb, hP⟩ := sv_a2_at hl hat
        obtain ⟨j, ej, hj⟩ : sv_ol clv og x := by
          rcases ho with ho | ⟨q, ho, _⟩ | ho
          · omega
          · omega
          · exact ho
        have ej2 : Nat.div og 2 = j := by show og / 2 = j; omega
        rw [ej2] at hb h
        rw [hj] at hb
        cases hb
        have hP' : sv_vr Re Rh (sv_os w) (.inl (lo, hi, de, dh, o2)) (.inl x) := hP
        have hm := sv_meet hP'.1.1 hp
        rw [show Nat.ble (cond (Nat.ble lo p.1) p.1 lo) (cond (Nat.ble hi p.2) hi p.2) = true from Nat.ble_eq.mpr (Nat.le_trans hm.1 hm.2), cond_true, ia_setK_eq] at h
        have hl' : sv_all2 (sv_ov (sv_vr Re Rh (sv_os w))) (lv.set j (some (.inl (cond (Nat.ble lo p.1) p.1 lo, cond (Nat.ble hi p.2) hi p.2, de, dh, o2)))) clv := by
          have h9 := sv_a2_set (P := sv_ov (sv_vr Re Rh (sv_os w))) j (a := some (.inl (cond (Nat.ble lo p.1) p.1 lo, cond (Nat.ble hi p.2) hi p.2, de, dh, o2))) (b := some (.inl x)) hl ⟨⟨sv_meet hP'.1.1 hp, hP'.1.2.1, hP'.1.2.2⟩, hP'.2⟩
          have h10 : clv.set j (some (.inl x)) = clv := by
            rw [ia_at_eq] at hj
            obtain ⟨hl0, he⟩ := List.getElem?_eq_some_iff.mp hj
            rw [← he]
            exact List.set_getElem_self hl0
          rw [h10] at h9
          exact h9
        rcases sv_cnd h with ⟨_, h⟩ | ⟨h2, h⟩
        · exact ⟨_, fs, hl', hf, h⟩
        · refine slot o2 _ ?_ hl' h
          rcases hP'.2 with z | z
          · rw [show o2 = 0 from z] at h2; cases h2
          · exact z
      · exact ⟨lv, fs, hl, hf, h⟩
    · refine slot og lv ?_ hl h
      rcases ho with ho | ho | ⟨j, ho, _⟩
      · rw [ho] at h0; cases h0
      · exact ho
      · have h3 : Nat.beq (og % 2) 1 = false := h1
        rw [show og % 2 = 1 from by omega] at h3
        cases h3
theorem sv_fv_T {T : sv_I → Prop} {q : Nat} {d : sv_I} : ∀ {fs : sv_F}, (∀ f ∈ fs, f.1 = q → T (f.2.1, f.2.2.1, f.2.2.2.1, f.2.2.2.2, Nat.add (Nat.mul 2 q) 2)) → T d → T (sv_fv fs q d)
  | [], _, hd => hd
  | f :: fs, h, hd => by
    show T (cond (Nat.beq f.1 q) _ (sv_fv fs q d))
    cases hq : Nat.beq f.1 q with
    | true => exact h f List.mem_cons_self (ia_beq hq)
    | false => exact sv_fv_T (fun g hg => h g (List.mem_cons_of_mem _ hg)) hd
theorem sv_fq_T {q : Nat} {p : sv_P} : ∀ {fs : sv_F}, sv_fq fs q = some p → ∃ f ∈ fs, f.1 = q ∧ p = (f.2.1, f.2.2.1)
  | [], h => by cases h
  | f :: fs, h => by
    have h' : cond (Nat.beq f.1 q) (some (f.2.1, f.2.2.1)) (sv_fq fs q) = some p := h
    cases hq : Nat.beq f.1 q with
    | true => rw [hq] at h'; cases h'; exact ⟨f, List.mem_cons_self, ia_beq hq, rfl⟩
    | false =>
      rw [hq] at h'
      obtain ⟨g, h1, h2⟩ := sv_fq_T h'
      exact ⟨g, List.mem_cons_of_mem _ h1, h2⟩
theorem sv_qd {k i : Nat} (hi : i < 16384) : sv_q k i / 16384 = k ∧ sv_q k i % 16384 = i := by
  have : sv_q k i = k * 16384 + i := rfl
  omega
/-- what is told of a slot, or its bounds -/
theorem sv_fv_at {fs : sv_F} {q : Nat} (hf : sv_fs Re Rh fs w) (hG : sv_w G w) : sv_i Re Rh (sv_fv fs q ((sv_g G (q / 16384) (q % 16384)).1, (sv_g G (q / 16384) (q % 16384)).2, 0, 0, 0)) (sv_at w q) ∧ ((sv_fv fs q ((sv_g G (q / 16384) (q % 16384)).1, (sv_g G (q / 16384) (q % 16384)).2, 0, 0, 0)).2.2.2.2 = 0 ∨ sv_os w (sv_fv fs q ((sv_g G (q / 16384) (q % 16384)).1, (sv_g G (q / 16384) (q % 16384)).2, 0, 0, 0)).2.2.2.2 (sv_at w q)) := by
  refine sv_fv_T (T := fun v => sv_i Re Rh v (sv_at w q) ∧ (v.2.2.2.2 = 0 ∨ sv_os w v.2.2.2.2 (sv_at w q))) (fun f h1 h2 => ?_) ⟨⟨hG _ _, Or.inl rfl, Or.inl rfl⟩, Or.inl rfl⟩
  have h3 := hf f h1
  unfold sv_f1 at h3
  rw [h2] at h3
  exact ⟨h3, Or.inr ⟨q, rfl, rfl⟩⟩
theorem sv_rd_ok {fs : sv_F} {k i : Nat} (hi : i < 16384) (hf : sv_fs Re Rh fs w) (hG : sv_w G w) : sv_i Re Rh (sv_rd G fs k i) (w.1 k i) ∧ ((sv_rd G fs k i).2.2.2.2 = 0 ∨ sv_os w (sv_rd G fs k i).2.2.2.2 (w.1 k i)) := by
  unfold sv_rd
  rw [ia_frc_eq]
  have h := sv_fv_at (q := sv_q k i) hf hG
  obtain ⟨e1, e2⟩ := sv_qd (k := k) hi
  rw [e1, e2] at h
  have e3 : sv_at w (sv_q k i) = w.1 k i := by unfold sv_at; rw [e1, e2]
  rw [e3] at h
  exact h
/-! ### bounds of the world -/
theorem sv_hull_l {a b : sv_P} {x : Int32} (h : sv_in a x) : sv_in (sv_hull a b) x := by
  obtain ⟨p1, p2, p3⟩ := sv_cle (a := a.1) (b := b.1)
  obtain ⟨q1, q2, q3⟩ := sv_cge (a := a.2) (b := b.2)
  exact ⟨Nat.le_trans p1 h.1, Nat.le_trans h.2 q1⟩
theorem sv_hull_r {a b : sv_P} {x : Int32} (h : sv_in b x) : sv_in (sv_hull a b) x := by
  obtain ⟨p1, p2, p3⟩ := sv_cle (a := a.1) (b := b.1)
  obtain ⟨q1, q2, q3⟩ := sv_cge (a := a.2) (b := b.2)
  exact ⟨Nat.le_trans p2 h.1, Nat.le_trans h.2 q2⟩
theorem sv_bltf {a b : Nat} (h : Nat.blt a b = false) : ¬ a < b := fun z => by
  have h2 : Nat.blt a b = true := Nat.ble_eq.mpr z
  rw [h] at h2
  cases h2
theorem sv_hl_ok {a b i : Nat} {x : Int32} (ha : a ≤ i) (hb : i ≤ b) : ∀ {l : List (Nat × Nat × Nat)}, sv_in (sv_rn l i) x → sv_in (sv_hl l a b) x
  | [], h => h
  | r :: l, h => by
    have h' : sv_in (cond (Nat.blt i r.1) r.2 (sv_rn l i)) x := h
    show sv_in (cond (Nat.blt b r.1) r.2 (cond (Nat.blt a r.1) (sv_hull r.2 (sv_hl l a b)) (sv_hl l a b))) x
    cases h1 : Nat.blt i r.1 with
    | true =>
      rw [h1] at h'
      have := ia_blt h1
      cases h2 : Nat.blt b r.1 with
      | true => exact h'
      | false =>
        cases h3 : Nat.blt a r.1 with
        | true => exact sv_hull_l h'
        | false => exact absurd (by omega) (sv_bltf h3)
    | false =>
      rw [h1] at h'
      have hn := sv_bltf h1
      cases h2 : Nat.blt b r.1 with
      | true => have := ia_blt h2; omega
      | false =>
        cases h3 : Nat.blt a r.1 with
        | true => exact sv_hull_r (sv_hl_ok ha hb h')
        | false => exact sv_hl_ok ha hb h'
theorem sv_incl_ok {a b : sv_P} {x : Int32} (h : sv_incl a b = true) (hx : sv_in a x) : sv_in b x := by
  unfold sv_incl at h
  rw [Bool.and_eq_true] at h
  exact ⟨Nat.le_trans (ia_ble h.1) hx.1, Nat.le_trans hx.2 (ia_ble h.2)⟩
theorem sv_gi_ok {a b i : Nat} {v : sv_P} {x : Int32} (ha : a ≤ i) (hb : i ≤ b) (hx : sv_in v x) : ∀ {l : List (Nat × Nat × Nat)}, sv_gi v l a b = true → sv_in (sv_rn l i) x
  | [], h => sv_in_top x
  | r :: l, h => by
    have h' : cond (Nat.blt b r.1) (sv_incl v r.2) (cond (Nat.blt a r.1) (sv_incl v r.2 && sv_gi v l a b) (sv_gi v l a b)) = true := h
    show sv_in (cond (Nat.blt i r.1) r.2 (sv_rn l i)) x
    rcases sv_cnd h' with ⟨h1, h2⟩ | ⟨h1, h2⟩
    · have hi : Nat.blt i r.1 = true := Nat.ble_eq.mpr (by have := ia_blt h1; omega)
      rw [hi]
      exact sv_incl_ok h2 hx
    · rcases sv_cnd h2 with ⟨h3, h4⟩ | ⟨h3, h4⟩
      · rw [Bool.and_eq_true] at h4
        cases h5 : Nat.blt i r.1 with
        | true => exact sv_incl_ok h4.1 hx
        | false => exact sv_gi_ok ha hb hx h4.2
      · have hi : Nat.blt i r.1 = false := by
          cases h5 : Nat.blt i r.1 with
          | false => rfl
          | true => have := ia_blt h5; have := sv_bltf h3; omega
        rw [hi]
        exact sv_gi_ok ha hb hx h4
theorem sv_wr_ok {W : sv_WR} {k a b i : Nat} (h : sv_wr W k a b = true) (ha : a ≤ i) (hb : i ≤ b) : sv_hit W k i := by
  obtain ⟨r, h1, h2⟩ := sv_anyb_ok h
  simp only [Bool.and_eq_true] at h2
  exact ⟨r, h1, ia_beq h2.1, Nat.le_trans (ia_ble h2.2.1) ha, Nat.le_trans hb (ia_ble h2.2.2)⟩
theorem sv_at_u1 {n i q : Nat} {x : Int32} : sv_at (cm_u1 w n i x) q = if q / 16384 = n ∧ q % 16384 = i then x else sv_at w q := rfl
theorem sv_w_u1 {n i : Nat} {x : Int32} (h : sv_w G w) (hx : sv_in (sv_g G n i) x) : sv_w G (cm_u1 w n i x) := by
  intro k j
  show sv_in (sv_g G k j) (if k = n ∧ j = i then x else w.1 k j)
  by_cases hz : k = n ∧ j = i
  · rw [if_pos hz, hz.1, hz.2]; exact hx
  · rw [if_neg hz]; exact h k j
theorem sv_fr_u1 {W : sv_WR} {w0 : cm_W} {n i : Nat} {x : Int32} (h : sv_fr W w0 w) (hh : sv_hit W n i) : sv_fr W w0 (cm_u1 w n i x) := by
  intro k j hk
  refine ⟨?_, (h k j hk).2⟩
  show (if k = n ∧ j = i then x else w.1 k j) = _
  by_cases hz : k = n ∧ j = i
  · rw [hz.1, hz.2] at hk; exact absurd hh hk
  · rw [if_neg hz]; exact (h k j hk).1
theorem sv_fr_u2 {W : sv_WR} {w0 : cm_W} {n i : Nat} {x : Int64} (h : sv_fr W w0 w) (hh : sv_hit W n i) : sv_fr W w0 (cm_u2 w n i x) := by
  intro k j hk
  refine ⟨(h k j hk).1, ?_⟩
  show (if k = n ∧ j = i then x else w.2 k j) = _
  by_cases hz : k = n ∧ j = i
  · rw [hz.1, hz.2] at hk; exact absurd hh hk
  · rw [if_neg hz]; exact (h k j hk).2
end SVT

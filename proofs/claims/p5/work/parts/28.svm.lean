/-! ## the checker is right: places, loops, the whole -/
def sv_zv (v : sv_V) : sv_V := match v with
  | .inl (lo, hi, de, _, _) => .inl (lo, hi, de, 0, 0)
  | .inr o => .inr o
def sv_zf (f : Nat × Nat × Nat × Nat × Nat) : Nat × Nat × Nat × Nat × Nat := (f.1, f.2.1, f.2.2.1, f.2.2.2.1, 0)
def sv_Rz (Re : Nat) (v : sv_V) (c : cm_V) : Prop := sv_vr Re 0 (fun _ _ => False) (sv_zv v) c
noncomputable def sv_rv (rk : Nat) (clv : cm_L) (w : cm_W) : Nat := if rk = 0 then 0 else if rk % 2 = 1 then (match ia_at clv (rk / 2) with
  | some (some (.inl x)) => ia_E x
  | _ => 0) else ia_E (sv_at w (rk / 2 - 1))
def sv_Cn (G : sv_GT) (W : sv_WR) (na Re : Nat) (lv0 : cm_L) (w0 : cm_W) (c : sv_CS) (Rh : Nat) (clv : cm_L) (cst : List cm_V) (w : cm_W) : Prop := ((c.2.1 = c.2.2.1 ∧ Rh = sv_rv c.2.2.2.1 clv w ∧ sv_all2 (sv_ov (sv_Rz Re)) c.2.2.2.2.1 clv ∧ sv_all2 (sv_Rz Re) c.2.2.2.2.2.1 cst ∧ sv_fs Re 0 (c.2.2.2.2.2.2.map sv_zf) w) ∨ (c.2.1 ≠ c.2.2.1 ∧ sv_all2 (sv_ov (sv_vr Re Rh (fun _ _ => True))) c.2.2.2.2.1 clv ∧ sv_all2 (sv_vr Re Rh (fun _ _ => True)) c.2.2.2.2.2.1 cst ∧ sv_fs Re Rh c.2.2.2.2.2.2 w)) ∧ sv_w G w ∧ sv_fr W w0 w ∧ sv_pa na lv0 clv
section SVM
variable {d : Nat} {Q : cm_O → Prop} {G : sv_GT} {W : sv_WR} {na Re Rh : Nat} {lv0 : cm_L} {w0 : cm_W} {k : sv_K} {S : List sv_SM} {s : sv_SM} {as0 : List cm_V}
variable {pc : Nat} {lv : sv_L} {st : List sv_V} {fs : sv_F} {clv : cm_L} {cst : List cm_V} {w : cm_W} {c : sv_CS}
theorem sv_rv_lt {rk : Nat} : sv_rv rk clv w ≤ 4294967296 := by
  unfold sv_rv
  split
  · omega
  · split
    · split
      · exact Nat.le_of_lt (ia_E_lt _)
      · omega
    · exact Nat.le_of_lt (ia_E_lt _)
theorem sv_Rz_of {O : Nat → Int32 → Prop} {v : sv_V} {x : cm_V} (h : sv_Rz Re v x) : sv_vr Re Rh O (sv_zv v) x := by
  match v, x, h with
  | .inl (lo, hi, de, dh, og), .inl x, h => exact ⟨⟨h.1.1, h.1.2.1, Or.inl rfl⟩, Or.inl rfl⟩
  | .inr none, .inr (.inl _), _ => trivial
  | .inr (some k), .inr (.inr (some j)), h => exact h
/-- the rank's own number is put in -/
theorem sv_rk_ok {rk : Nat} {kk : sv_L → sv_F → Bool} (h : sv_rk rk lv fs kk = true) (hR : Rh = sv_rv rk clv w) (s1 : sv_all2 (sv_ov (sv_vr Re Rh (sv_os w))) lv clv) (s3 : sv_fs Re Rh fs w) : ∃ lv' fs', sv_all2 (sv_ov (sv_vr Re Rh (sv_os w))) lv' clv ∧ sv_fs Re Rh fs' w ∧ kk lv' fs' = true := by
  unfold sv_rk at h
  rcases sv_cnd h with ⟨_, h⟩ | ⟨h0, h⟩
  · exact ⟨lv, fs, s1, s3, h⟩
  · have hne : rk ≠ 0 := fun z => by rw [z] at h0; cases h0
    rcases sv_cnd h with ⟨h1, h⟩ | ⟨h1, h⟩
    · have e1 : rk % 2 = 1 := ia_beq h1
      split at h
      · rename_i lo hi de z1 z2 hat
        rw [ia_setK_eq] at h
        obtain ⟨b, hb, hP⟩ := sv_a2_at s1 hat
        match b, hP with
        | some b, hP =>
          obtain ⟨x, rfl, x1, x2⟩ := sv_vr_int hP
          have hRx : Rh = ia_E x := by
            rw [hR]
            unfold sv_rv
            rw [if_neg hne, if_pos e1, show ia_at clv (rk / 2) = some (some (.inl x)) from hb]
          have hset : clv.set (Nat.div rk 2) (some (.inl x)) = clv := by
            rw [ia_at_eq] at hb
            obtain ⟨hl0, he⟩ := List.getElem?_eq_some_iff.mp hb
            rw [← he]
            exact List.set_getElem_self hl0
          refine ⟨_, fs, ?_, s3, h⟩
          have h9 := sv_a2_set (P := sv_ov (sv_vr Re Rh (sv_os w))) (Nat.div rk 2) (a := some (.inl (lo, hi, de, 1, 0))) (b := some (.inl x)) s1 ⟨⟨x1.1, x1.2.1, Or.inr (by show Rh + 1 ≤ _; omega)⟩, Or.inl rfl⟩
          rw [hset] at h9
          exact h9
      · exact ⟨lv, fs, s1, s3, h⟩
    · have e1 : ¬ rk % 2 = 1 := fun z => by
        have h2 : Nat.beq (rk % 2) 1 = false := h1
        rw [z] at h2
        cases h2
      rw [ia_frc_eq] at h
      have hRx : Rh = ia_E (sv_at w (rk / 2 - 1)) := by
        rw [hR]
        unfold sv_rv
        rw [if_neg hne, if_neg e1]
      obtain ⟨fs', h3, h4⟩ := sv_mapK_ok (R := fun f f' => sv_f1 Re Rh w f → sv_f1 Re Rh w f') (fun f k h => by
        rcases sv_cnd h with ⟨hq, h⟩ | ⟨_, h⟩
        · have e2 : f.1 = rk / 2 - 1 := ia_beq hq
          refine ⟨(f.1, f.2.1, f.2.2.1, f.2.2.2.1, 1), fun hf => ⟨hf.1, hf.2.1, Or.inr ?_⟩, h⟩
          show Rh + 1 ≤ ia_E (sv_at w f.1) + 1
          rw [e2]
          omega
        · exact ⟨f, id, h⟩) fs _ h
      exact ⟨lv, fs', s1, sv_fs_map h3 s3, h4⟩
theorem sv_start_ok (h : sv_start c k = true) (hC : sv_Cn G W na Re lv0 w0 c Rh clv cst w) : ∃ lv st fs, k c.1 lv st fs = true ∧ sv_St G W na Re Rh lv0 w0 lv st fs clv cst w := by
  obtain ⟨hC, s4, s5, s6⟩ := hC
  unfold sv_start at h
  rcases sv_cnd h with ⟨he, h⟩ | ⟨he, h⟩
  · have he := ia_beq he
    rcases hC with ⟨_, hR, t1, t2, t3⟩ | ⟨hne, _⟩
    · obtain ⟨lv1, u1, h⟩ := sv_mapK_ok (f := sv_h0) (R := fun v v' => ∀ x, sv_ov (sv_Rz Re) v x → sv_ov (sv_vr Re Rh (sv_os w)) v' x) (fun v k h => by
        match v, h with
        | some (.inl (lo, hi, de, dh, og)), h => exact ⟨_, fun x hx => by
            match x, hx with
            | some x, hx => exact sv_Rz_of (v := .inl (lo, hi, de, dh, og)) hx, h⟩
        | some (.inr o), h => exact ⟨_, fun x hx => by
            match x, hx with
            | some x, hx => exact sv_Rz_of (v := .inr o) hx, h⟩
        | none, h => exact ⟨_, fun x hx => by
            match x, hx with
            | none, _ => trivial
            | some (.inl _), _ => trivial
            | some (.inr (.inr _)), _ => trivial, h⟩) _ _ h
      obtain ⟨st1, u2, h⟩ := sv_mapK_ok (f := sv_h1) (R := fun v v' => ∀ x, sv_Rz Re v x → sv_vr Re Rh (fun og x => sv_os w og x ∨ sv_ol clv og x) v' x) (fun v k h => by
        match v, h with
        | .inl (lo, hi, de, dh, og), h => exact ⟨_, fun x hx => sv_Rz_of (v := .inl (lo, hi, de, dh, og)) hx, h⟩
        | .inr o, h => exact ⟨_, fun x hx => sv_Rz_of (v := .inr o) hx, h⟩) _ _ h
      obtain ⟨fs1, u3, h⟩ := sv_mapK_ok (f := sv_h2) (R := fun f f' => sv_f1 Re 0 w (sv_zf f) → sv_f1 Re Rh w f') (fun f k h => by
        obtain ⟨q, lo, hi, de, dh⟩ := f
        exact ⟨_, fun hf => ⟨hf.1, hf.2.1, Or.inl rfl⟩, h⟩) _ _ h
      have v1 := sv_a2_tr (P' := sv_ov (sv_vr Re Rh (sv_os w))) (fun a b x hab hax => hab x hax) u1 t1
      have v2 := sv_a2_tr (P' := sv_vr Re Rh (fun og x => sv_os w og x ∨ sv_ol clv og x)) (fun a b x hab hax => hab x hax) u2 t2
      have v3 : sv_fs Re Rh fs1 w := by
        have go : ∀ (l l' : sv_F), sv_all2 (fun f f' => sv_f1 Re 0 w (sv_zf f) → sv_f1 Re Rh w f') l l' → sv_fs Re 0 (l.map sv_zf) w → sv_fs Re Rh l' w := by
          intro l
          induction l with
          | nil => intro l' z1 _; rw [sv_nil z1]; intro f hf; cases hf
          | cons a l ih =>
            intro l' z1 z2
            obtain ⟨b, t, rfl, z3, z4⟩ := sv_cons z1
            intro f hm
            rcases List.mem_cons.mp hm with rfl | hm
            · exact z3 (z2 _ (by rw [List.map_cons]; exact List.mem_cons_self))
            · exact ih t z4 (fun g hg => z2 g (by rw [List.map_cons]; exact List.mem_cons_of_mem _ hg)) f hm
        exact go _ _ u3 t3
      obtain ⟨lv2, fs2, x1, x3, h⟩ := sv_rk_ok h hR v1 v3
      exact ⟨lv2, st1, fs2, h, x1, v2, x3, s4, s5, s6⟩
    · exact absurd he hne
  · have hne : c.2.1 ≠ c.2.2.1 := fun z => by rw [z, cm_bq] at he; cases he
    rcases hC with ⟨z, _⟩ | ⟨_, t1, t2, t3⟩
    · exact absurd z hne
    · obtain ⟨lv1, u1, h⟩ := sv_cl_ok (Re := Re) (Rh := Rh) h
      obtain ⟨st1, u2, h⟩ := sv_cs_ok (Re := Re) (Rh := Rh) h
      exact ⟨lv1, st1, _, h, u1 _ _ _ t1, u2 _ _ _ t2, t3, s4, s5, s6⟩
/-- what a jump to a place gives -/
theorem sv_s2_z {O : Nat → Int32 → Prop} {H : Bool} {a b : sv_V} {x : cm_V} (h : sv_s2 H a b = true) (hx : sv_vr Re Rh O a x) : sv_Rz Re b x := by
  match a, b, x, h, hx with
  | .inl a, .inl (lo, hi, de, dh, og), .inl x, h, hx =>
    have := sv_s1_ok h hx.1
    exact ⟨⟨this.1, this.2.1, Or.inl rfl⟩, Or.inl rfl⟩
  | .inr none, .inr none, .inr (.inl _), _, _ => trivial
  | .inr (some k), .inr (some j), .inr (.inr (some z)), h, hx =>
    have h1 : k = j := ia_beq h
    have h2 : z = k := hx
    exact h2.trans h1
theorem sv_s2_h {O : Nat → Int32 → Prop} {a b : sv_V} {x : cm_V} (h : sv_s2 true a b = true) (hx : sv_vr Re Rh O a x) : sv_vr Re Rh (fun _ _ => True) b x := by
  match a, b, x, h, hx with
  | .inl a, .inl b, .inl x, h, hx =>
    have := sv_s1_ok h hx.1
    exact ⟨⟨this.1, this.2.1, this.2.2 rfl⟩, Or.inr trivial⟩
  | .inr none, .inr none, .inr (.inl _), _, _ => trivial
  | .inr (some k), .inr (some j), .inr (.inr (some z)), h, hx =>
    have h1 : k = j := ia_beq h
    have h2 : z = k := hx
    exact h2.trans h1
theorem sv_s3_m {H : Bool} {P P' : sv_V → cm_V → Prop} (hP : ∀ a b x, sv_s2 H a b = true → P a x → P' b x) (hl : ∀ a y, P a (.inr (.inl y)) → a = .inr none) {a b : Option sv_V} {x : Option cm_V} (h : sv_s3 H a b = true) (hx : sv_ov P a x) : sv_ov P' b x := by
  match a, b, x, h, hx with
  | some a, some b, some x, h, hx => exact hP a b x h hx
  | none, none, none, _, _ => trivial
  | none, none, some (.inl _), _, _ => trivial
  | none, none, some (.inr (.inr _)), _, _ => trivial
  | some a, none, some (.inl _), _, _ => trivial
  | some a, none, some (.inr (.inr _)), _, _ => trivial
  | some a, none, some (.inr (.inl y)), h, hx =>
    have := hl a y hx
    subst this
    cases h
  | none, some b, _, h, _ => cases h
theorem sv_sbs_z {H : Bool} (h : sv_sbs G H c lv st fs = true) (hS : sv_St G W na Re Rh lv0 w0 lv st fs clv cst w) : sv_all2 (sv_ov (sv_Rz Re)) c.2.2.2.2.1 clv ∧ sv_all2 (sv_Rz Re) c.2.2.2.2.2.1 cst ∧ sv_fs Re 0 (c.2.2.2.2.2.2.map sv_zf) w := by
  obtain ⟨s1, s2, s3, s4, s5, s6⟩ := hS
  unfold sv_sbs at h
  simp only [Bool.and_eq_true] at h
  obtain ⟨h1, h2, h3⟩ := h
  refine ⟨sv_a2_tr (P := sv_ov (sv_vr Re Rh (sv_os w))) (P' := sv_ov (sv_Rz Re)) (R := fun a b => sv_s3 H a b = true) (fun a b x hab hax => sv_s3_m (P := sv_vr Re Rh (sv_os w)) (P' := sv_Rz Re) (fun a b x h hx => sv_s2_z h hx) sv_vr_l hab hax) (sv_all_ok h1) s1, sv_a2_tr (P := sv_vr Re Rh (fun og x => sv_os w og x ∨ sv_ol clv og x)) (P' := sv_Rz Re) (R := fun a b => sv_s2 H a b = true) (fun a b x hab hax => sv_s2_z hab hax) (sv_all_ok h2) s2, fun f hf => ?_⟩
  obtain ⟨g, hg, rfl⟩ := List.mem_map.mp hf
  have := sv_sf_ok (sv_allb_ok h3 g hg) s3 s4
  exact ⟨this.1, this.2.1, Or.inl rfl⟩
theorem sv_sbs_h (h : sv_sbs G true c lv st fs = true) (hS : sv_St G W na Re Rh lv0 w0 lv st fs clv cst w) : sv_all2 (sv_ov (sv_vr Re Rh (fun _ _ => True))) c.2.2.2.2.1 clv ∧ sv_all2 (sv_vr Re Rh (fun _ _ => True)) c.2.2.2.2.2.1 cst ∧ sv_fs Re Rh c.2.2.2.2.2.2 w := by
  obtain ⟨s1, s2, s3, s4, s5, s6⟩ := hS
  unfold sv_sbs at h
  simp only [Bool.and_eq_true] at h
  obtain ⟨h1, h2, h3⟩ := h
  refine ⟨sv_a2_tr (P := sv_ov (sv_vr Re Rh (sv_os w))) (P' := sv_ov (sv_vr Re Rh (fun _ _ => True))) (R := fun a b => sv_s3 true a b = true) (fun a b x hab hax => sv_s3_m (P := sv_vr Re Rh (sv_os w)) (P' := sv_vr Re Rh (fun _ _ => True)) (fun a b x h hx => sv_s2_h h hx) sv_vr_l hab hax) (sv_all_ok h1) s1, sv_a2_tr (P := sv_vr Re Rh (fun og x => sv_os w og x ∨ sv_ol clv og x)) (P' := sv_vr Re Rh (fun _ _ => True)) (R := fun a b => sv_s2 true a b = true) (fun a b x hab hax => sv_s2_h hab hax) (sv_all_ok h2) s2, fun f hf => ?_⟩
  have := sv_sf_ok (sv_allb_ok h3 f hf) s3 s4
  exact ⟨this.1, this.2.1, this.2.2 rfl⟩
theorem sv_rh_ok {rk : Nat} (h : sv_rh rk lv fs = true) (hS : sv_St G W na Re Rh lv0 w0 lv st fs clv cst w) : Rh + 1 ≤ sv_rv rk clv w := by
  obtain ⟨s1, s2, s3, s4, s5, s6⟩ := hS
  unfold sv_rh at h
  unfold sv_rv
  rcases sv_cnd h with ⟨_, h⟩ | ⟨h0, h⟩
  · cases h
  · have hne : rk ≠ 0 := fun z => by rw [z] at h0; cases h0
    rw [if_neg hne]
    rcases sv_cnd h with ⟨h1, h⟩ | ⟨h1, h⟩
    · have e1 : rk % 2 = 1 := ia_beq h1
      rw [if_pos e1]
      split at h
      · rename_i a ha
        obtain ⟨b, hb, hP⟩ := sv_a2_at s1 ha
        match b, hP with
        | some b, hP =>
          obtain ⟨x, rfl, x1, x2⟩ := sv_vr_int hP
          rw [show ia_at clv (rk / 2) = some (some (.inl x)) from hb]
          have h2 := ia_ble h
          show Rh + 1 ≤ ia_E x
          rcases x1.2.2 with z | z
          · omega
          · omega
      · cases h
    · have e1 : ¬ rk % 2 = 1 := fun z => by
        have h2 : Nat.beq (rk % 2) 1 = false := h1
        rw [z] at h2
        cases h2
      rw [if_neg e1]
      have h2 : 2 ≤ (sv_fv fs (rk / 2 - 1) (0, 0, 0, 0, 0)).2.2.2.1 := ia_ble h
      have h3 : (sv_fv fs (rk / 2 - 1) (0, 0, 0, 0, 0)).2.2.2.1 = 0 ∨ Rh + (sv_fv fs (rk / 2 - 1) (0, 0, 0, 0, 0)).2.2.2.1 ≤ ia_E (sv_at w (rk / 2 - 1)) + 1 := by
        refine sv_fv_T (T := fun v => v.2.2.2.1 = 0 ∨ Rh + v.2.2.2.1 ≤ ia_E (sv_at w (rk / 2 - 1)) + 1) (fun f h1 h2 => ?_) (Or.inl rfl)
        have h3 := s3 f h1
        unfold sv_f1 at h3
        rw [h2] at h3
        exact h3.2.2
      rcases h3 with z | z
      · omega
      · omega
theorem sv_x_ok {cut : List Nat} {cs : List sv_CS} {i o : Nat} (hV : ∀ s ∈ S, sv_valid G s) (hdep : s.2.1 = d + 1) (hpre : ∀ ar : List sv_V, ar.length ≤ na → sv_all2 sv_la ar (lv0.take ar.length) → sv_pre ar as0) (hQ : ∀ r w, sv_w G w → sv_fr s.2.2.2.2.2.1 w0 w → (∃ q ∈ s.2.2.2.2.2.2, sv_r0 q.1 r ∧ sv_pre q.2.1 as0 ∧ sv_fs Re 0 (q.2.2.map (fun f => (f.1, f.2.1, f.2.2.1, f.2.2.2.1, 0))) w) → Q (r, w)) (hJ : ∀ (c : sv_CS) (pc : Nat) (lv : sv_L) (st : List sv_V) (fs : sv_F) (clv : cm_L) (cst : List cm_V) (w : cm_W), c ∈ cs → sv_to G i o c pc lv st fs = true → sv_St G s.2.2.2.2.2.1 na Re Rh lv0 w0 lv st fs clv cst w → cm_X (cm_C d) s.1 pc clv cst w Q) : ∀ fuel, sv_kok (cm_C d) s.1 Q G s.2.2.2.2.2.1 na Re Rh lv0 w0 (sv_x G S s na cut cs i o fuel)
  | 0 => fun pc lv st fs h => by cases h
  | fuel + 1 => fun pc lv st fs h clv cst w hS => by
    have h' : cond (sv_anyb (fun p => Nat.beq p pc) cut) (sv_anyb (fun c => sv_to G i o c pc lv st fs) cs) (sv_step G S s na (sv_x G S s na cut cs i o fuel) pc lv st fs) = true := h
    rcases sv_cnd h' with ⟨_, h1⟩ | ⟨_, h1⟩
    · obtain ⟨c, hc, h2⟩ := sv_anyb_ok h1
      exact hJ c pc lv st fs clv cst w hc h2 hS
    · unfold sv_step at h1
      rw [fdd_eq] at h1
      split at h1
      · rename_i q hq
        exact sv_do_ok hV hdep hpre hQ (sv_x_ok hV hdep hpre hQ hJ fuel) hq h1 hS
      · cases h1
theorem sv_step_ok (hV : ∀ s ∈ S, sv_valid G s) (hdep : s.2.1 = d + 1) (hpre : ∀ ar : List sv_V, ar.length ≤ na → sv_all2 sv_la ar (lv0.take ar.length) → sv_pre ar as0) (hQ : ∀ r w, sv_w G w → sv_fr s.2.2.2.2.2.1 w0 w → (∃ q ∈ s.2.2.2.2.2.2, sv_r0 q.1 r ∧ sv_pre q.2.1 as0 ∧ sv_fs Re 0 (q.2.2.map (fun f => (f.1, f.2.1, f.2.2.1, f.2.2.2.1, 0))) w) → Q (r, w)) (hk : sv_kok (cm_C d) s.1 Q G s.2.2.2.2.2.1 na Re Rh lv0 w0 k) (h : sv_step G S s na k pc lv st fs = true) (hS : sv_St G s.2.2.2.2.2.1 na Re Rh lv0 w0 lv st fs clv cst w) : cm_X (cm_C d) s.1 pc clv cst w Q := by
  unfold sv_step at h
  rw [fdd_eq] at h
  split at h
  · rename_i q hq
    exact sv_do_ok hV hdep hpre hQ hk hq h hS
  · cases h
theorem sv_rv_M {rk M : Nat} (hM : 4294967296 = M) : sv_rv rk clv w ≤ M := by
  rw [← hM]
  exact sv_rv_lt
/-- by a number that falls -/
theorem sv_rng_ok {f : Nat → Bool} {lo v : Nat} : ∀ {n : Nat}, sv_rng lo n f = true → lo ≤ v → v < lo + n → f v = true
  | 0, _, h1, h2 => absurd h2 (by omega)
  | n + 1, h, h1, h2 => by
    have h' : cond (ia_frc (Nat.add lo n) f) (sv_rng lo n f) false = true := h
    rw [ia_frc_eq] at h'
    rcases sv_cnd h' with ⟨h3, h4⟩ | ⟨_, z⟩
    · by_cases e : v = lo + n
      · rw [e]; exact h3
      · exact sv_rng_ok h4 h1 (by omega)
    · cases z
theorem sv_spl_ok {rk : Nat} {kk : sv_L → sv_F → Bool} (h : sv_spl rk lv fs kk = true) (hS : sv_St G W na Re Rh lv0 w0 lv st fs clv cst w) : ∃ lv' fs', kk lv' fs' = true ∧ sv_St G W na Re Rh lv0 w0 lv' st fs' clv cst w := by
  obtain ⟨s1, s2, s3, s4, s5, s6⟩ := hS
  unfold sv_spl at h
  rcases sv_cnd h with ⟨_, h⟩ | ⟨_, h⟩
  · split at h
    · rename_i lo hi de dh og hat
      rw [ia_frc_eq] at h
      obtain ⟨b, hb, hP⟩ := sv_a2_at s1 hat
      match b, hP with
      | some b, hP =>
        obtain ⟨x, rfl, x1, x2⟩ := sv_vr_int hP
        have q1 : lo ≤ ia_E x := x1.1.1
        have q2 : ia_E x ≤ hi := x1.1.2
        have h3 := sv_rng_ok h q1 (by show ia_E x < lo + (hi + 1 - lo); omega)
        rw [ia_setK_eq] at h3
        refine ⟨_, fs, h3, ?_, s2, s3, s4, s5, s6⟩
        have hset : clv.set (Nat.div rk 2) (some (.inl x)) = clv := by
          rw [ia_at_eq] at hb
          obtain ⟨hl0, he⟩ := List.getElem?_eq_some_iff.mp hb
          rw [← he]
          exact List.set_getElem_self hl0
        have h9 := sv_a2_set (P := sv_ov (sv_vr Re Rh (sv_os w))) (Nat.div rk 2) (a := some (.inl (ia_E x, ia_E x, de, dh, 0))) (b := some (.inl x)) s1 ⟨⟨⟨Nat.le_refl _, Nat.le_refl _⟩, x1.2.1, x1.2.2⟩, Or.inl rfl⟩
        rw [hset] at h9
        exact h9
    · cases h
  · rw [ia_frc_eq] at h
    split at h
    · rename_i p hp
      rw [ia_frc_eq] at h
      obtain ⟨f, h1, h2, rfl⟩ := sv_fq_T hp
      have h3 := s3 f h1
      unfold sv_f1 at h3
      rw [h2] at h3
      have q1 := h3.1.1
      have q2 := h3.1.2
      have h4 := sv_rng_ok h q1 (by
        show ia_E (sv_at w (Nat.sub (Nat.div rk 2) 1)) < f.2.1 + (f.2.2.1 + 1 - f.2.1)
        have q1' : f.2.1 ≤ ia_E (sv_at w (Nat.sub (Nat.div rk 2) 1)) := q1
        have q2' : ia_E (sv_at w (Nat.sub (Nat.div rk 2) 1)) ≤ f.2.2.1 := q2
        generalize ia_E (sv_at w (Nat.sub (Nat.div rk 2) 1)) = z at q1' q2' ⊢
        omega)
      obtain ⟨fs', h5, h6⟩ := sv_mapK_fs (sv_fm_ok (Re := Re) (Rh := Rh) (w := w) (q := Nat.sub (Nat.div rk 2) 1) (p := (ia_E (sv_at w (Nat.sub (Nat.div rk 2) 1)), ia_E (sv_at w (Nat.sub (Nat.div rk 2) 1)))) (sv_self _)) fs _ s3 h4
      exact ⟨lv, fs', h6, s1, s2, h5, s4, s5, s6⟩
    · cases h
theorem sv_places {cut : List Nat} {cs : List sv_CS} {sp : List (Nat × Nat)} {N M : Nat} (hM : 4294967296 = M) (hV : ∀ s ∈ S, sv_valid G s) (hdep : s.2.1 = d + 1) (hpre : ∀ ar : List sv_V, ar.length ≤ na → sv_all2 sv_la ar (lv0.take ar.length) → sv_pre ar as0) (hQ : ∀ r w, sv_w G w → sv_fr s.2.2.2.2.2.1 w0 w → (∃ q ∈ s.2.2.2.2.2.2, sv_r0 q.1 r ∧ sv_pre q.2.1 as0 ∧ sv_fs Re 0 (q.2.2.map (fun f => (f.1, f.2.1, f.2.2.1, f.2.2.2.1, 0))) w) → Q (r, w)) (hrun : ∀ c ∈ cs, sv_run1 G S s na cut cs sp N c = true) : ∀ (m : Nat) (c : sv_CS) (Rh : Nat) (clv : cm_L) (cst : List cm_V) (w : cm_W), c ∈ cs → Rh ≤ M → (N - c.2.2.1) * ((M + 1) * (N + 1)) + (M - Rh) * (N + 1) + (N - c.2.1) < m → sv_Cn G s.2.2.2.2.2.1 na Re lv0 w0 c Rh clv cst w → cm_X (cm_C d) s.1 c.1 clv cst w Q
  | 0 => fun c Rh clv cst w _ _ hm => absurd hm (Nat.not_lt_zero _)
  | m + 1 => fun c Rh clv cst w hc hRh hm hC => by
    have hr := hrun c hc
    unfold sv_run1 at hr
    simp only [Bool.and_eq_true] at hr
    obtain ⟨⟨r1, r2⟩, r3⟩ := hr
    have r1 := ia_ble r1
    have r2 := ia_ble r2
    obtain ⟨lv, st, fs, h, hS⟩ := sv_start_ok r3 hC
    have hJ : ∀ (c' : sv_CS) (pc : Nat) (lv : sv_L) (st : List sv_V) (fs : sv_F) (clv : cm_L) (cst : List cm_V) (w : cm_W), c' ∈ cs → sv_to G c.2.1 c.2.2.1 c' pc lv st fs = true → sv_St G s.2.2.2.2.2.1 na Re Rh lv0 w0 lv st fs clv cst w → cm_X (cm_C d) s.1 pc clv cst w Q := ?_
    · rcases sv_cnd h with ⟨_, h⟩ | ⟨_, h⟩
      · exact sv_step_ok hV hdep hpre hQ (sv_x_ok hV hdep hpre hQ hJ _) h hS
      · obtain ⟨lv', fs', h, hS'⟩ := sv_spl_ok h hS
        obtain ⟨c', hc', h⟩ := sv_anyb_ok h
        exact hJ c' _ _ _ _ _ _ _ hc' h hS'
    intro c' pc lv st fs clv cst w hc' hto hS
    have hr' := hrun c' hc'
    unfold sv_run1 at hr'
    simp only [Bool.and_eq_true] at hr'
    have r1' := ia_ble hr'.1.1
    have r2' := ia_ble hr'.1.2
    unfold sv_to at hto
    rw [Bool.and_eq_true] at hto
    obtain ⟨hp, hto⟩ := hto
    have hp := ia_beq hp
    subst hp
    obtain ⟨s1, s2, s3, s4, s5, s6⟩ := id hS
    have key1 : ∀ Rh', Rh' ≤ M → c.2.2.1 < c'.2.2.1 → (N - c'.2.2.1) * ((M + 1) * (N + 1)) + (M - Rh') * (N + 1) + (N - c'.2.1) < m := fun Rh' _ hlt => by
      have e1 : (N - c'.2.2.1) + 1 ≤ N - c.2.2.1 := by omega
      have e2 := Nat.mul_le_mul_right ((M + 1) * (N + 1)) e1
      rw [Nat.add_mul, Nat.one_mul] at e2
      have e3 : (M - Rh') * (N + 1) ≤ M * (N + 1) := Nat.mul_le_mul_right _ (by omega)
      have e4 : (M + 1) * (N + 1) = M * (N + 1) + (N + 1) := Nat.succ_mul M (N + 1)
      generalize (N - c'.2.2.1) * ((M + 1) * (N + 1)) = X1 at e2 ⊢
      generalize (N - c.2.2.1) * ((M + 1) * (N + 1)) = X2 at e2 hm
      generalize (M + 1) * (N + 1) = X3 at e2 e4
      generalize (M - Rh') * (N + 1) = X4 at e3 ⊢
      generalize M * (N + 1) = X5 at e3 e4
      generalize (M - Rh) * (N + 1) = X6 at hm
      omega
    rcases sv_cnd hto with ⟨hlt, hto⟩ | ⟨_, hto⟩
    · have hlt := ia_blt hlt
      rcases sv_cnd hto with ⟨he, hto⟩ | ⟨he, hto⟩
      · have he := ia_beq he
        refine sv_places hM hV hdep hpre hQ hrun m c' (sv_rv c'.2.2.2.1 clv w) clv cst w hc' (sv_rv_M hM) (key1 _ (sv_rv_M hM) (by omega)) ⟨Or.inl ⟨he, rfl, sv_sbs_z hto hS⟩, s4, s5, s6⟩
      · rw [Bool.and_eq_true] at hto
        have ho := ia_beq hto.1
        have hne : c'.2.1 ≠ c'.2.2.1 := fun z => by rw [z, cm_bq] at he; cases he
        refine sv_places hM hV hdep hpre hQ hrun m c' Rh clv cst w hc' hRh ?_ ⟨Or.inr ⟨hne, sv_sbs_h hto.2 hS⟩, s4, s5, s6⟩
        rw [ho]
        generalize (N - c.2.2.1) * ((M + 1) * (N + 1)) = X2 at hm ⊢
        generalize (M - Rh) * (N + 1) = X6 at hm ⊢
        omega
    · simp only [Bool.and_eq_true] at hto
      obtain ⟨q1, q2, q3, q4⟩ := hto
      have q1 := ia_beq q1
      have q2 := ia_beq q2
      have hR := sv_rh_ok q3 hS
      refine sv_places hM hV hdep hpre hQ hrun m c' (sv_rv c'.2.2.2.1 clv w) clv cst w hc' (sv_rv_M hM) ?_ ⟨Or.inl ⟨q1, rfl, sv_sbs_z q4 hS⟩, s4, s5, s6⟩
      have ho : c'.2.2.1 = c.2.2.1 := by omega
      rw [ho]
      have hlt := sv_rv_M (rk := c'.2.2.2.1) (clv := clv) (w := w) hM
      have e1 : (M - sv_rv c'.2.2.2.1 clv w) + 1 ≤ M - Rh := by omega
      have e2 := Nat.mul_le_mul_right (N + 1) e1
      rw [Nat.add_mul, Nat.one_mul] at e2
      generalize (N - c.2.2.1) * ((M + 1) * (N + 1)) = X2 at hm ⊢
      generalize (M - Rh) * (N + 1) = X6 at hm e2
      generalize (M - sv_rv c'.2.2.2.1 clv w) * (N + 1) = X7 at e2 ⊢
      omega
end SVM

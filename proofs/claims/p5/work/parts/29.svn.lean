/-! ## the checker is right: a summary that is checked holds -/
theorem sv_sz0 : ∀ {as : List sv_V} {cas : List cm_V}, sv_all2 sv_v0 as cas → sv_sz as = ia_sz (cm_es cas)
  | [], [], _ => rfl
  | [], c :: cst, h => h.elim
  | v :: st, [], h => h.elim
  | v :: st, c :: cst, h => by
    have e := sv_sz0 h.2
    match v, c, h.1 with
    | .inl a, .inl x, _ => exact congrArg (Nat.add 1) e
    | .inr none, .inr (.inl _), _ => exact congrArg (Nat.add 2) e
    | .inr (some k), .inr (.inr (some j)), _ => exact congrArg (Nat.add 1) e
def sv_fl (as : List cm_V) : cm_L := as.flatMap (fun a => match a with
  | .inr (.inl _) => [some a, none]
  | _ => [some a])
theorem sv_ent_ok {Re Rh : Nat} {O : Nat → Int32 → Prop} : ∀ {as : List sv_V} {cas : List cm_V}, sv_all2 sv_v0 as cas → sv_all2 (sv_ov (sv_vr Re Rh O)) (sv_ent as) (sv_fl cas)
  | [], [], _ => trivial
  | [], c :: cst, h => h.elim
  | v :: st, [], h => h.elim
  | v :: st, c :: cst, h => by
    have e := sv_ent_ok (Re := Re) (Rh := Rh) (O := O) h.2
    match v, c, h.1 with
    | .inl a, .inl x, h1 => exact ⟨sv_vr_new h1, e⟩
    | .inr none, .inr (.inl _), _ => exact ⟨True.intro, True.intro, e⟩
    | .inr (some k), .inr (.inr (some j)), h1 => exact ⟨h1, e⟩
theorem sv_pre_ok {rest : cm_L} {g : sv_V → Bool} (hg : g (.inr none) = false) (hr : ∀ c ∈ rest, c = none) : ∀ (ar : List sv_V) {na : Nat} {as : List sv_V} {cas : List cm_V}, sv_all2 sv_v0 as cas → sv_allb g (as.take na) = true → ar.length ≤ na → sv_all2 sv_la ar ((sv_fl cas ++ rest).take ar.length) → sv_pre ar cas
  | [], na, as, cas, _, _, _, _ => by unfold sv_pre; trivial
  | b :: ar, 0, as, cas, _, _, h, _ => absurd h (Nat.not_succ_le_zero _)
  | b :: ar, na + 1, [], [], _, _, _, h => by
    obtain ⟨c, t, e, ⟨c', hc, _⟩, _⟩ := sv_cons h
    have : c ∈ (sv_fl [] ++ rest).take (b :: ar).length := by rw [e]; exact List.mem_cons_self
    have h2 := hr c (List.mem_of_mem_take this)
    rw [h2] at hc
    cases hc
  | b :: ar, na + 1, [], c :: cas, h, _, _, _ => h.elim
  | b :: ar, na + 1, a :: as, [], h, _, _, _ => h.elim
  | b :: ar, na + 1, a :: as, c :: cas, h, hb, hl, h9 => by
    have hb' : cond (g a) (sv_allb g (as.take na)) false = true := hb
    rcases sv_cnd hb' with ⟨b1, b2⟩ | ⟨_, b2⟩
    · have hh : sv_la b (some c) ∧ sv_all2 sv_la ar ((sv_fl cas ++ rest).take ar.length) := by
        match a, c, h.1, h9 with
        | .inl a, .inl x, _, h9 => exact h9
        | .inr (some k), .inr (.inr (some j)), _, h9 => exact h9
        | .inr none, .inr (.inl _), _, _ => rw [hg] at b1; cases b1
      obtain ⟨c', e, hv⟩ := hh.1
      cases e
      exact ⟨hv, sv_pre_ok hg hr ar h.2 b2 (Nat.le_of_succ_le_succ hl) hh.2⟩
    · cases b2
theorem sv_main {G : sv_GT} {S : List sv_SM} {s : sv_SM} {na : Nat} {cut : List Nat} {cs : List sv_CS} {sp : List (Nat × Nat)} {N : Nat} (hV : ∀ s ∈ S, sv_valid G s) (h : sv_chk G S s na cut cs sp N = true) : sv_valid G s := by
  intro as w hargs hfs hG
  unfold sv_chk at h
  simp only [Bool.and_eq_true] at h
  obtain ⟨⟨h1, h2, h3, h4⟩, h5, h6⟩ := h
  have hdep : s.2.1 = (s.2.1 - 1) + 1 := by
    have := ia_blt h2
    omega
  have hsz := sv_sz0 hargs
  have hmax := ia_ble h1
  have e0 : cm_ent s.1 as = sv_fl as ++ List.replicate (ia_maxL s.1 - ia_sz (cm_es as)) none := rfl
  have hpre : ∀ ar : List sv_V, ar.length ≤ na → sv_all2 sv_la ar ((cm_ent s.1 as).take ar.length) → sv_pre ar as := fun ar hl h9 => by
    rw [e0] at h9
    exact sv_pre_ok (g := _) rfl (fun c hc => List.eq_of_mem_replicate hc) ar hargs h4 hl h9
  have hrun : ∀ c ∈ cs, sv_run1 G S s na cut cs sp N c = true := sv_allb_ok h6
  have hQ : ∀ (r : Option cm_V) (w' : cm_W), sv_w G w' → sv_fr s.2.2.2.2.2.1 w w' → (∃ q ∈ s.2.2.2.2.2.2, sv_r0 q.1 r ∧ sv_pre q.2.1 as ∧ sv_fs (ia_E (sv_at w s.2.2.1)) 0 (q.2.2.map (fun f => (f.1, f.2.1, f.2.2.1, f.2.2.2.1, 0))) w') → sv_Q G s as w (r, w') := fun r w' g1 g2 g3 => ⟨g1, g2, g3⟩
  have hJ : ∀ (c : sv_CS) (pc : Nat) (lv : sv_L) (st : List sv_V) (fs : sv_F) (clv : cm_L) (cst : List cm_V) (w' : cm_W), c ∈ cs → sv_to G 0 0 c pc lv st fs = true → sv_St G s.2.2.2.2.2.1 na (ia_E (sv_at w s.2.2.1)) 0 (cm_ent s.1 as) w lv st fs clv cst w' → cm_X (cm_C (s.2.1 - 1)) s.1 pc clv cst w' (sv_Q G s as w) := by
    intro c pc lv st fs clv cst w' hc hto hS
    unfold sv_to at hto
    rw [Bool.and_eq_true] at hto
    obtain ⟨hp, hto⟩ := hto
    have hp := ia_beq hp
    subst hp
    obtain ⟨s1, s2, s3, s4, s5, s6⟩ := id hS
    rcases sv_cnd hto with ⟨hlt, hto⟩ | ⟨_, hto⟩
    · rcases sv_cnd hto with ⟨he, hto⟩ | ⟨he, hto⟩
      · exact sv_places (M := 4294967296) rfl hV hdep hpre hQ hrun _ c (sv_rv c.2.2.2.1 clv w') clv cst w' hc sv_rv_lt (Nat.lt_succ_self _) ⟨Or.inl ⟨ia_beq he, rfl, sv_sbs_z hto hS⟩, s4, s5, s6⟩
      · rw [Bool.and_eq_true] at hto
        have hne : c.2.1 ≠ c.2.2.1 := fun z => by rw [z, cm_bq] at he; cases he
        exact sv_places (M := 4294967296) rfl hV hdep hpre hQ hrun _ c 0 clv cst w' hc (Nat.zero_le _) (Nat.lt_succ_self _) ⟨Or.inr ⟨hne, sv_sbs_h hto.2 hS⟩, s4, s5, s6⟩
    · simp only [Bool.and_eq_true] at hto
      exact sv_places (M := 4294967296) rfl hV hdep hpre hQ hrun _ c (sv_rv c.2.2.2.1 clv w') clv cst w' hc sv_rv_lt (Nat.lt_succ_self _) ⟨Or.inl ⟨ia_beq hto.1, rfl, sv_sbs_z hto.2.2.2 hS⟩, s4, s5, s6⟩
  have hS0 : sv_St G s.2.2.2.2.2.1 na (ia_E (sv_at w s.2.2.1)) 0 (cm_ent s.1 as) w (sv_ent s.2.2.2.1 ++ List.replicate (Nat.sub (ia_maxL s.1) (sv_sz s.2.2.2.1)) none) [] s.2.2.2.2.1 (cm_ent s.1 as) [] w := by
    refine ⟨?_, trivial, hfs, hG, fun _ _ _ => ⟨rfl, rfl⟩, fun _ _ => rfl⟩
    rw [e0, hsz]
    exact sv_a2_app (sv_ent_ok hargs) (sv_a2_rep (P := sv_ov (sv_vr (ia_E (sv_at w s.2.2.1)) 0 (sv_os w))) (a := none) (b := none) True.intro _)
  obtain ⟨F, o, r1, r2⟩ := sv_x_ok hV hdep hpre hQ hJ 100000 _ _ _ _ h5 _ _ _ hS0
  refine ⟨o, ?_, r2⟩
  rw [hdep]
  exact Or.inr ⟨by rw [← hsz]; exact hmax, F, r1⟩

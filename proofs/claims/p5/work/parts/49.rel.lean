/-! ## places and summaries under a relation that the world of the entry keeps (R), beside the bounds -/
def sv_plR (R : cm_W → Prop) (G : sv_GT) (s : sv_SM) (na : Nat) (c : sv_CS) : Prop := ∀ (as : List cm_V) (w0 : cm_W), sv_all2 sv_v0 s.2.2.2.1 as → R w0 → ∀ (Rh : Nat) (clv : cm_L) (cst : List cm_V) (w : cm_W), Rh ≤ 4294967296 → sv_Cn G s.2.2.2.2.2.1 na (ia_E (sv_at w0 s.2.2.1)) (cm_ent s.1 as) w0 c Rh clv cst w → cm_X (cm_C (s.2.1 - 1)) s.1 c.1 clv cst w (sv_Q G s as w0)
def sv_validR (R : cm_W → Prop) (G : sv_GT) (s : sv_SM) : Prop := ∀ (as : List cm_V) (w : cm_W), sv_all2 sv_v0 s.2.2.2.1 as → sv_fs (ia_E (sv_at w s.2.2.1)) 0 s.2.2.2.2.1 w → sv_w G w → R w → ∃ o, cm_C s.2.1 s.1 as w o ∧ sv_Q G s as w o
section SVR
variable {R R' : cm_W → Prop} {G : sv_GT} {S : List sv_SM} {s : sv_SM} {na : Nat} {cut : List Nat} {cs ext : List sv_CS} {sp : List (Nat × Nat)} {N : Nat}
theorem sv_plR_of {c : sv_CS} (h : sv_pl G s na c) : sv_plR R G s na c := fun as w0 ha _ => h as w0 ha
theorem sv_plR_weak {c : sv_CS} (hR : ∀ w, R w → R' w) (h : sv_plR R' G s na c) : sv_plR R G s na c := fun as w0 ha hr => h as w0 ha (hR w0 hr)
theorem sv_npR : ∀ c ∈ ([] : List sv_CS), sv_plR R G s na c := fun s hs => by cases hs
theorem sv_cpR {c : sv_CS} {l : List sv_CS} (h : sv_plR R G s na c) (hl : ∀ c ∈ l, sv_plR R G s na c) : ∀ c' ∈ c :: l, sv_plR R G s na c' := fun c' hc => by
  rcases List.mem_cons.mp hc with rfl | hc
  · exact h
  · exact hl c' hc
theorem sv_chunkR (hh : sv_hd s na = true) (hV : ∀ s ∈ S, sv_valid G s) (hrun : sv_allb (sv_run1 G S s na cut (cs ++ ext) sp N) cs = true) (hext : ∀ c ∈ ext, sv_plR R G s na c) : ∀ c ∈ cs, sv_plR R G s na c := by
  intro c hc as w0 hargs hR0 Rh clv cst w hR hC
  obtain ⟨hdep, hmax, hpre, hQ⟩ := sv_hd_ok (G := G) (w := w0) hh hargs
  exact sv_frag (M := 4294967296) rfl hV hdep hpre hQ (sv_allb_ok hrun) (fun c' Rh' clv' cst' w' hc' hR' hC' => hext c' hc' as w0 hargs hR0 Rh' clv' cst' w' hR' hC') _ c Rh clv cst w hc hR (Nat.lt_succ_self _) hC
theorem sv_mainR (hh : sv_hd s na = true) (hV : ∀ s ∈ S, sv_valid G s) (hent : sv_x G S s na cut ext 0 0 100000 0 (sv_ent s.2.2.2.1 ++ List.replicate (Nat.sub (ia_maxL s.1) (sv_sz s.2.2.2.1)) none) [] s.2.2.2.2.1 = true) (hext : ∀ c ∈ ext, sv_plR R G s na c) : sv_validR R G s := by
  intro as w hargs hfs hG hRw
  obtain ⟨hdep, hmax, hpre, hQ⟩ := sv_hd_ok (G := G) (w := w) hh hargs
  have hsz := sv_sz0 hargs
  have e0 : cm_ent s.1 as = sv_fl as ++ List.replicate (ia_maxL s.1 - ia_sz (cm_es as)) none := rfl
  have hJ : ∀ (c : sv_CS) (pc : Nat) (lv : sv_L) (st : List sv_V) (fs : sv_F) (clv : cm_L) (cst : List cm_V) (w' : cm_W), c ∈ ext → sv_to G 0 0 c pc lv st fs = true → sv_St G s.2.2.2.2.2.1 na (ia_E (sv_at w s.2.2.1)) 0 (cm_ent s.1 as) w lv st fs clv cst w' → cm_X (cm_C (s.2.1 - 1)) s.1 pc clv cst w' (sv_Q G s as w) := by
    intro c pc lv st fs clv cst w' hc hto hS
    unfold sv_to at hto
    rw [Bool.and_eq_true] at hto
    obtain ⟨hp, hto⟩ := hto
    have hp := ia_beq hp
    subst hp
    obtain ⟨s1, s2, s3, s4, s5, s6⟩ := id hS
    rcases sv_cnd hto with ⟨hlt, hto⟩ | ⟨_, hto⟩
    · rcases sv_cnd hto with ⟨he, hto⟩ | ⟨he, hto⟩
      · exact hext c hc as w hargs hRw (sv_rv c.2.2.2.1 clv w') clv cst w' sv_rv_lt ⟨Or.inl ⟨ia_beq he, rfl, sv_sbs_z hto hS⟩, s4, s5, s6⟩
      · rw [Bool.and_eq_true] at hto
        have hne : c.2.1 ≠ c.2.2.1 := fun z => by rw [z, cm_bq] at he; cases he
        exact hext c hc as w hargs hRw 0 clv cst w' (Nat.zero_le _) ⟨Or.inr ⟨hne, sv_sbs_h hto.2 hS⟩, s4, s5, s6⟩
    · simp only [Bool.and_eq_true] at hto
      exact hext c hc as w hargs hRw (sv_rv c.2.2.2.1 clv w') clv cst w' sv_rv_lt ⟨Or.inl ⟨ia_beq hto.1, rfl, sv_sbs_z hto.2.2.2 hS⟩, s4, s5, s6⟩
  have hS0 : sv_St G s.2.2.2.2.2.1 na (ia_E (sv_at w s.2.2.1)) 0 (cm_ent s.1 as) w (sv_ent s.2.2.2.1 ++ List.replicate (Nat.sub (ia_maxL s.1) (sv_sz s.2.2.2.1)) none) [] s.2.2.2.2.1 (cm_ent s.1 as) [] w := by
    refine ⟨?_, trivial, hfs, hG, fun _ _ _ => ⟨rfl, rfl⟩, fun _ _ => rfl⟩
    rw [e0, hsz]
    exact sv_a2_app (sv_ent_ok hargs) (sv_a2_rep (P := sv_ov (sv_vr (ia_E (sv_at w s.2.2.1)) 0 (sv_os w))) (a := none) (b := none) True.intro _)
  obtain ⟨F, o, r1, r2⟩ := sv_x_ok hV hdep hpre hQ hJ 100000 _ _ _ _ hent _ _ _ hS0
  refine ⟨o, ?_, r2⟩
  rw [hdep]
  exact Or.inr ⟨by rw [← hsz]; exact hmax, F, r1⟩
/-- a place without a rank of its own, with more told of its slots: where every state of c is a state of one of these -/
def sv_more (c : sv_CS) (fs : sv_F) : sv_CS := (c.1, c.2.1, c.2.2.1, c.2.2.2.1, c.2.2.2.2.1, c.2.2.2.2.2.1, fs)
theorem sv_splitR {c : sv_CS} {ts : List (Nat × sv_F)} (h0 : c.2.1 = c.2.2.1) (hts : ∀ t ∈ ts, sv_plR R G s na (c.1, t.1, t.1, c.2.2.2.1, c.2.2.2.2.1, c.2.2.2.2.2.1, t.2)) (hsp : ∀ (w0 w : cm_W), R w0 → sv_fr s.2.2.2.2.2.1 w0 w → sv_w G w → sv_fs (ia_E (sv_at w0 s.2.2.1)) 0 (c.2.2.2.2.2.2.map sv_zf) w → ∃ t ∈ ts, sv_fs (ia_E (sv_at w0 s.2.2.1)) 0 (t.2.map sv_zf) w) : sv_plR R G s na c := by
  intro as w0 hargs hR0 Rh clv cst w hRh hC
  obtain ⟨hC, s4, s5, s6⟩ := hC
  rcases hC with ⟨_, hR, t1, t2, t3⟩ | ⟨hne, _⟩
  · obtain ⟨t, ht, hf⟩ := hsp w0 w hR0 s5 s4 t3
    exact hts t ht as w0 hargs hR0 Rh clv cst w hRh ⟨Or.inl ⟨rfl, hR, t1, t2, hf⟩, s4, s5, s6⟩
  · exact absurd h0 hne
end SVR

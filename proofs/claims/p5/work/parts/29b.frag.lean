/-! ## a piece of a method: from the places of a list, some places taken as given -/
section SVF
variable {d : Nat} {Q : cm_O → Prop} {G : sv_GT} {W : sv_WR} {na Re Rh : Nat} {lv0 : cm_L} {w0 : cm_W} {k : sv_K} {S : List sv_SM} {s : sv_SM} {as0 : List cm_V}
variable {pc : Nat} {lv : sv_L} {st : List sv_V} {fs : sv_F} {clv : cm_L} {cst : List cm_V} {w : cm_W} {c : sv_CS}
theorem sv_frag {cut : List Nat} {cs ext : List sv_CS} {sp : List (Nat × Nat)} {N M : Nat} (hM : 4294967296 = M) (hV : ∀ s ∈ S, sv_valid G s) (hdep : s.2.1 = d + 1) (hpre : ∀ ar : List sv_V, ar.length ≤ na → sv_all2 sv_la ar (lv0.take ar.length) → sv_pre ar as0) (hQ : ∀ r w, sv_w G w → sv_fr s.2.2.2.2.2.1 w0 w → (∃ q ∈ s.2.2.2.2.2.2, sv_r0 q.1 r ∧ sv_pre q.2.1 as0 ∧ sv_fs Re 0 (q.2.2.map (fun f => (f.1, f.2.1, f.2.2.1, f.2.2.2.1, 0))) w) → Q (r, w)) (hrun : ∀ c ∈ cs, sv_run1 G S s na cut (cs ++ ext) sp N c = true) (hext : ∀ (c : sv_CS) (Rh : Nat) (clv : cm_L) (cst : List cm_V) (w : cm_W), c ∈ ext → Rh ≤ M → sv_Cn G s.2.2.2.2.2.1 na Re lv0 w0 c Rh clv cst w → cm_X (cm_C d) s.1 c.1 clv cst w Q) : ∀ (m : Nat) (c : sv_CS) (Rh : Nat) (clv : cm_L) (cst : List cm_V) (w : cm_W), c ∈ cs → Rh ≤ M → (N - c.2.2.1) * ((M + 1) * (N + 1)) + (M - Rh) * (N + 1) + (N - c.2.1) < m → sv_Cn G s.2.2.2.2.2.1 na Re lv0 w0 c Rh clv cst w → cm_X (cm_C d) s.1 c.1 clv cst w Q
  | 0 => fun c Rh clv cst w _ _ hm => absurd hm (Nat.not_lt_zero _)
  | m + 1 => fun c Rh clv cst w hc hRh hm hC => by
    have hr := hrun c hc
    unfold sv_run1 at hr
    simp only [Bool.and_eq_true] at hr
    obtain ⟨⟨r1, r2⟩, r3⟩ := hr
    have r1 := ia_ble r1
    have r2 := ia_ble r2
    obtain ⟨lv, st, fs, h, hS⟩ := sv_start_ok r3 hC
    have hJ : ∀ (c' : sv_CS) (pc : Nat) (lv : sv_L) (st : List sv_V) (fs : sv_F) (clv : cm_L) (cst : List cm_V) (w : cm_W), c' ∈ cs ++ ext → sv_to G c.2.1 c.2.2.1 c' pc lv st fs = true → sv_St G s.2.2.2.2.2.1 na Re Rh lv0 w0 lv st fs clv cst w → cm_X (cm_C d) s.1 pc clv cst w Q := ?_
    · rcases sv_cnd h with ⟨_, h⟩ | ⟨_, h⟩
      · exact sv_step_ok hV hdep hpre hQ (sv_x_ok hV hdep hpre hQ hJ _) h hS
      · obtain ⟨lv', fs', h, hS'⟩ := sv_spl_ok h hS
        obtain ⟨c', hc', h⟩ := sv_anyb_ok h
        exact hJ c' _ _ _ _ _ _ _ hc' h hS'
    intro c' pc lv st fs clv cst w hc' hto hS
    unfold sv_to at hto
    rw [Bool.and_eq_true] at hto
    obtain ⟨hp, hto⟩ := hto
    have hp := ia_beq hp
    subst hp
    obtain ⟨s1, s2, s3, s4, s5, s6⟩ := id hS
    rcases List.mem_append.mp hc' with hc' | hc'
    rotate_left
    · rcases sv_cnd hto with ⟨hlt, hto⟩ | ⟨_, hto⟩
      · rcases sv_cnd hto with ⟨he, hto⟩ | ⟨he, hto⟩
        · exact hext c' (sv_rv c'.2.2.2.1 clv w) clv cst w hc' (sv_rv_M hM) ⟨Or.inl ⟨ia_beq he, rfl, sv_sbs_z hto hS⟩, s4, s5, s6⟩
        · rw [Bool.and_eq_true] at hto
          have hne : c'.2.1 ≠ c'.2.2.1 := fun z => by rw [z, cm_bq] at he; cases he
          exact hext c' Rh clv cst w hc' hRh ⟨Or.inr ⟨hne, sv_sbs_h hto.2 hS⟩, s4, s5, s6⟩
      · simp only [Bool.and_eq_true] at hto
        exact hext c' (sv_rv c'.2.2.2.1 clv w) clv cst w hc' (sv_rv_M hM) ⟨Or.inl ⟨ia_beq hto.1, rfl, sv_sbs_z hto.2.2.2 hS⟩, s4, s5, s6⟩
    have hr' := hrun c' hc'
    unfold sv_run1 at hr'
    simp only [Bool.and_eq_true] at hr'
    have r1' := ia_ble hr'.1.1
    have r2' := ia_ble hr'.1.2
    have key1 : ∀ Rh', Rh' ≤ M → c.2.2.1 < c'.2.2.1 → (N - c'.2.2.1) * ((M + 1) * (N + 1)) + (M - Rh') * (N + 1) + (N - c'.2.1) < m := fun Rh' _ hlt => by
      have e1 : (N - c'.2.2.1) + 1 ≤ N - c.2.2.1 := by omega
      have e2 := Nat.mul_le_mul_right ((M + 1) * (N + 1)) e1
      rw [Nat.add_mul, Nat.one_mul] at e2
      have e3 : (M - Rh') * (N + 1) ≤ M * (N + 1) := Nat.mul_le_mul_right _ (by omega)
      have e4 : (M + 1) * (N + 1) = M * (N + 1) + (N + 1) := Nat.succ_mul M (N + 1)
      generalize (N - c'.2.2.1) * ((M + 1) * (N + 1)) = X1 at e2 ⊢
      generalize (N - c.2.2.1) * ((M + 1) * (N + 1)) = X2 at e2 hm
      generalize (M + 1) * (N + 1) = X3 at e2 e4
      generalize (M - Rh') * (N + 1) = X4 at e3 ⊢
      generalize M * (N + 1) = X5 at e3 e4
      generalize (M - Rh) * (N + 1) = X6 at hm
      omega
    rcases sv_cnd hto with ⟨hlt, hto⟩ | ⟨_, hto⟩
    · have hlt := ia_blt hlt
      rcases sv_cnd hto with ⟨he, hto⟩ | ⟨he, hto⟩
      · have he := ia_beq he
        refine sv_frag hM hV hdep hpre hQ hrun hext m c' (sv_rv c'.2.2.2.1 clv w) clv cst w hc' (sv_rv_M hM) (key1 _ (sv_rv_M hM) (by omega)) ⟨Or.inl ⟨he, rfl, sv_sbs_z hto hS⟩, s4, s5, s6⟩
      · rw [Bool.and_eq_true] at hto
        have ho := ia_beq hto.1
        have hne : c'.2.1 ≠ c'.2.2.1 := fun z => by rw [z, cm_bq] at he; cases he
        refine sv_frag hM hV hdep hpre hQ hrun hext m c' Rh clv cst w hc' hRh ?_ ⟨Or.inr ⟨hne, sv_sbs_h hto.2 hS⟩, s4, s5, s6⟩
        rw [ho]
        generalize (N - c.2.2.1) * ((M + 1) * (N + 1)) = X2 at hm ⊢
        generalize (M - Rh) * (N + 1) = X6 at hm ⊢
        omega
    · simp only [Bool.and_eq_true] at hto
      obtain ⟨q1, q2, q3, q4⟩ := hto
      have q1 := ia_beq q1
      have q2 := ia_beq q2
      have hR := sv_rh_ok q3 hS
      refine sv_frag hM hV hdep hpre hQ hrun hext m c' (sv_rv c'.2.2.2.1 clv w) clv cst w hc' (sv_rv_M hM) ?_ ⟨Or.inl ⟨q1, rfl, sv_sbs_z q4 hS⟩, s4, s5, s6⟩
      have ho : c'.2.2.1 = c.2.2.1 := by omega
      rw [ho]
      have hlt := sv_rv_M (rk := c'.2.2.2.1) (clv := clv) (w := w) hM
      have e1 : (M - sv_rv c'.2.2.2.1 clv w) + 1 ≤ M - Rh := by omega
      have e2 := Nat.mul_le_mul_right (N + 1) e1
      rw [Nat.add_mul, Nat.one_mul] at e2
      generalize (N - c.2.2.1) * ((M + 1) * (N + 1)) = X2 at hm ⊢
      generalize (M - Rh) * (N + 1) = X6 at hm e2
      generalize (M - sv_rv c'.2.2.2.1 clv w) * (N + 1) = X7 at e2 ⊢
      omega
end SVF
/-! ## a summary, place by place -/
noncomputable def sv_hd (s : sv_SM) (na : Nat) : Bool := Nat.ble (sv_sz s.2.2.2.1) (ia_maxL s.1) && (Nat.blt 0 s.2.1 && sv_allb (fun v => match v with
  | .inr none => false
  | _ => true) (s.2.2.2.1.take na))
/-- from this place the method ends as its summary says -/
def sv_pl (G : sv_GT) (s : sv_SM) (na : Nat) (c : sv_CS) : Prop := ∀ (as : List cm_V) (w0 : cm_W), sv_all2 sv_v0 s.2.2.2.1 as → ∀ (Rh : Nat) (clv : cm_L) (cst : List cm_V) (w : cm_W), Rh ≤ 4294967296 → sv_Cn G s.2.2.2.2.2.1 na (ia_E (sv_at w0 s.2.2.1)) (cm_ent s.1 as) w0 c Rh clv cst w → cm_X (cm_C (s.2.1 - 1)) s.1 c.1 clv cst w (sv_Q G s as w0)
theorem sv_hd_ok {G : sv_GT} {s : sv_SM} {na : Nat} (h : sv_hd s na = true) {as : List cm_V} {w : cm_W} (hargs : sv_all2 sv_v0 s.2.2.2.1 as) : s.2.1 = (s.2.1 - 1) + 1 ∧ sv_sz s.2.2.2.1 ≤ ia_maxL s.1 ∧ (∀ ar : List sv_V, ar.length ≤ na → sv_all2 sv_la ar ((cm_ent s.1 as).take ar.length) → sv_pre ar as) ∧ (∀ (r : Option cm_V) (w' : cm_W), sv_w G w' → sv_fr s.2.2.2.2.2.1 w w' → (∃ q ∈ s.2.2.2.2.2.2, sv_r0 q.1 r ∧ sv_pre q.2.1 as ∧ sv_fs (ia_E (sv_at w s.2.2.1)) 0 (q.2.2.map (fun f => (f.1, f.2.1, f.2.2.1, f.2.2.2.1, 0))) w') → sv_Q G s as w (r, w')) := by
  unfold sv_hd at h
  simp only [Bool.and_eq_true] at h
  obtain ⟨h1, h2, h4⟩ := h
  have h2' := ia_blt h2
  refine ⟨by omega, ia_ble h1, fun ar hl h9 => ?_, fun r w' g1 g2 g3 => ⟨g1, g2, g3⟩⟩
  have e0 : cm_ent s.1 as = sv_fl as ++ List.replicate (ia_maxL s.1 - ia_sz (cm_es as)) none := rfl
  rw [e0] at h9
  exact sv_pre_ok (g := _) rfl (fun c hc => List.eq_of_mem_replicate hc) ar hargs h4 hl h9
theorem sv_np {G : sv_GT} {s : sv_SM} {na : Nat} : ∀ c ∈ ([] : List sv_CS), sv_pl G s na c := fun s hs => by cases hs
theorem sv_cp {G : sv_GT} {s : sv_SM} {na : Nat} {c : sv_CS} {l : List sv_CS} (h : sv_pl G s na c) (hl : ∀ c ∈ l, sv_pl G s na c) : ∀ c' ∈ c :: l, sv_pl G s na c' := fun c' hc => by
  rcases List.mem_cons.mp hc with rfl | hc
  · exact h
  · exact hl c' hc
theorem sv_chunk {G : sv_GT} {S : List sv_SM} {s : sv_SM} {na : Nat} {cut : List Nat} {cs ext : List sv_CS} {sp : List (Nat × Nat)} {N : Nat} (hh : sv_hd s na = true) (hV : ∀ s ∈ S, sv_valid G s) (hrun : sv_allb (sv_run1 G S s na cut (cs ++ ext) sp N) cs = true) (hext : ∀ c ∈ ext, sv_pl G s na c) : ∀ c ∈ cs, sv_pl G s na c := by
  intro c hc as w0 hargs Rh clv cst w hR hC
  obtain ⟨hdep, hmax, hpre, hQ⟩ := sv_hd_ok (G := G) (w := w0) hh hargs
  exact sv_frag (M := 4294967296) rfl hV hdep hpre hQ (sv_allb_ok hrun) (fun c' Rh' clv' cst' w' hc' hR' hC' => hext c' hc' as w0 hargs Rh' clv' cst' w' hR' hC') _ c Rh clv cst w hc hR (Nat.lt_succ_self _) hC
theorem sv_first {G : sv_GT} {s : sv_SM} {na : Nat} {c : sv_CS} {l : List sv_CS} (h : ∀ c' ∈ c :: l, sv_pl G s na c') : sv_pl G s na c ∧ (∀ c' ∈ l, sv_pl G s na c') := ⟨h c List.mem_cons_self, fun c' hc => h c' (List.mem_cons_of_mem _ hc)⟩
theorem sv_mainX {G : sv_GT} {S : List sv_SM} {s : sv_SM} {na : Nat} {cut : List Nat} {ext : List sv_CS} (hh : sv_hd s na = true) (hV : ∀ s ∈ S, sv_valid G s) (hent : sv_x G S s na cut ext 0 0 100000 0 (sv_ent s.2.2.2.1 ++ List.replicate (Nat.sub (ia_maxL s.1) (sv_sz s.2.2.2.1)) none) [] s.2.2.2.2.1 = true) (hext : ∀ c ∈ ext, sv_pl G s na c) : sv_valid G s := by
  intro as w hargs hfs hG
  obtain ⟨hdep, hmax, hpre, hQ⟩ := sv_hd_ok (G := G) (w := w) hh hargs
  have hsz := sv_sz0 hargs
  have e0 : cm_ent s.1 as = sv_fl as ++ List.replicate (ia_maxL s.1 - ia_sz (cm_es as)) none := rfl
  have hJ : ∀ (c : sv_CS) (pc : Nat) (lv : sv_L) (st : List sv_V) (fs : sv_F) (clv : cm_L) (cst : List cm_V) (w' : cm_W), c ∈ ext → sv_to G 0 0 c pc lv st fs = true → sv_St G s.2.2.2.2.2.1 na (ia_E (sv_at w s.2.2.1)) 0 (cm_ent s.1 as) w lv st fs clv cst w' → cm_X (cm_C (s.2.1 - 1)) s.1 pc clv cst w' (sv_Q G s as w) := by
    intro c pc lv st fs clv cst w' hc hto hS
    unfold sv_to at hto
    rw [Bool.and_eq_true] at hto
    obtain ⟨hp, hto⟩ := hto
    have hp := ia_beq hp
    subst hp
    obtain ⟨s1, s2, s3, s4, s5, s6⟩ := id hS
    rcases sv_cnd hto with ⟨hlt, hto⟩ | ⟨_, hto⟩
    · rcases sv_cnd hto with ⟨he, hto⟩ | ⟨he, hto⟩
      · exact hext c hc as w hargs (sv_rv c.2.2.2.1 clv w') clv cst w' sv_rv_lt ⟨Or.inl ⟨ia_beq he, rfl, sv_sbs_z hto hS⟩, s4, s5, s6⟩
      · rw [Bool.and_eq_true] at hto
        have hne : c.2.1 ≠ c.2.2.1 := fun z => by rw [z, cm_bq] at he; cases he
        exact hext c hc as w hargs 0 clv cst w' (Nat.zero_le _) ⟨Or.inr ⟨hne, sv_sbs_h hto.2 hS⟩, s4, s5, s6⟩
    · simp only [Bool.and_eq_true] at hto
      exact hext c hc as w hargs (sv_rv c.2.2.2.1 clv w') clv cst w' sv_rv_lt ⟨Or.inl ⟨ia_beq hto.1, rfl, sv_sbs_z hto.2.2.2 hS⟩, s4, s5, s6⟩
  have hS0 : sv_St G s.2.2.2.2.2.1 na (ia_E (sv_at w s.2.2.1)) 0 (cm_ent s.1 as) w (sv_ent s.2.2.2.1 ++ List.replicate (Nat.sub (ia_maxL s.1) (sv_sz s.2.2.2.1)) none) [] s.2.2.2.2.1 (cm_ent s.1 as) [] w := by
    refine ⟨?_, trivial, hfs, hG, fun _ _ _ => ⟨rfl, rfl⟩, fun _ _ => rfl⟩
    rw [e0, hsz]
    exact sv_a2_app (sv_ent_ok hargs) (sv_a2_rep (P := sv_ov (sv_vr (ia_E (sv_at w s.2.2.1)) 0 (sv_os w))) (a := none) (b := none) True.intro _)
  obtain ⟨F, o, r1, r2⟩ := sv_x_ok hV hdep hpre hQ hJ 100000 _ _ _ _ hent _ _ _ hS0
  refine ⟨o, ?_, r2⟩
  rw [hdep]
  exact Or.inr ⟨by rw [← hsz]; exact hmax, F, r1⟩

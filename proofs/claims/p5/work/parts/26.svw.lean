/-! ## the checker is right: calls and ends -/
section SVW
variable {d : Nat} {y : Nat} {Q : cm_O → Prop} {G : sv_GT} {W : sv_WR} {na Re Rh : Nat} {lv0 : cm_L} {w0 : cm_W} {k : sv_K} {S : List sv_SM}
variable {pc : Nat} {lv : sv_L} {st : List sv_V} {fs : sv_F} {clv : cm_L} {cst : List cm_V} {w : cm_W} {ins : Instr} {len : Nat}
theorem sv_rcv_ok {O : Nat → Int32 → Prop} {y2 : Nat} {as : List sv_V} {cas : List cm_V} (h : sv_rcv y2 as = true) (ha : sv_all2 (sv_vr Re Rh O) as cas) : cm_rcv y2 cas = true := by
  unfold sv_rcv at h
  split at h
  · rename_i n t
    obtain ⟨c, ct, rfl, h1, h2⟩ := sv_cons ha
    have e := sv_vr_ref h1
    subst e
    exact h
  · cases h
theorem sv_find_ok {y2 dep : Nat} {as t : List sv_V} : ∀ {S : List sv_SM}, sv_find G S W dep y2 as t k pc lv fs = true → ∃ s ∈ S, sv_can2 G s y2 as fs = true ∧ sv_use G W dep s as t k pc lv fs = true
  | [], h => by cases h
  | s :: S, h => by
    have h' : cond (sv_can2 G s y2 as fs) (sv_use G W dep s as t k pc lv fs) (sv_find G S W dep y2 as t k pc lv fs) = true := h
    rcases sv_cnd h' with ⟨h1, h2⟩ | ⟨_, h2⟩
    · exact ⟨s, List.mem_cons_self, h1, h2⟩
    · obtain ⟨s', q1, q2⟩ := sv_find_ok h2
      exact ⟨s', List.mem_cons_of_mem _ q1, q2⟩
theorem sv_back_ok {O : Nat → Int32 → Prop} {q : Option sv_V} {r : Option cm_V} {t : List sv_V} {ct : List cm_V} (hr : sv_r0 q r) (ht : sv_all2 (sv_vr Re Rh O) t ct) : sv_all2 (sv_vr Re Rh O) (sv_back q t) (cm_back r ct) := by
  match q, r, hr with
  | none, none, _ => exact ht
  | some (.inl a), some (.inl x), hr => exact ⟨sv_vr_new hr, ht⟩
  | some (.inr none), some (.inr (.inl _)), _ => exact ⟨True.intro, ht⟩
  | some (.inr (some j)), some (.inr (.inr (some z))), hr => exact ⟨hr, ht⟩
theorem sv_cal_ok (hV : ∀ s ∈ S, sv_valid G s) (hk : sv_kok (cm_C d) y Q G W na Re Rh lv0 w0 k) (hd : decode (ia_code y) pc = .ok (ins, len)) {kd i : Nat} (hcall : cm_call y ins len cst = cm_cal y kd i cst) (h : sv_cal G S W (d + 1) y kd i k pc lv st fs = true) (hS : sv_St G W na Re Rh lv0 w0 lv st fs clv cst w) : cm_X (cm_C d) y pc clv cst w Q := by
  obtain ⟨s1, s2, s3, s4, s5, s6⟩ := hS
  unfold sv_cal at h
  unfold cm_cal at hcall
  split at h
  · rename_i y2 md z1 z2 hpl
    rw [hpl] at hcall
    simp only [Bool.and_eq_true] at h
    obtain ⟨⟨h1, h2, h3⟩, h⟩ := h
    obtain ⟨h4, h⟩ := sv_take_ok _ _ _ h
    rw [List.append_nil] at h
    simp only [Bool.and_eq_true] at h
    obtain ⟨⟨h5, h6⟩, h⟩ := h
    have a1 := sv_a2_rev (sv_a2_take (ia_na y2) s2)
    have a2 := sv_a2_drop (ia_na y2) s2
    have hq : cm_call y ins len cst = some (y2, (cst.take (ia_na y2)).reverse, cst.drop (ia_na y2)) := by
      rw [hcall]
      refine cm_ifk ?_ rfl
      have e1 : Nat.ble (ia_na y2) cst.length = true := Nat.ble_eq.mpr (by rw [← sv_a2_len s2]; exact h4)
      have e2 : (Nat.beq md 1 || cm_rcv y2 (cst.take (ia_na y2)).reverse) = true := by
        rw [Bool.or_eq_true] at h6 ⊢
        rcases h6 with h6 | h6
        · exact Or.inl h6
        · exact Or.inr (sv_rcv_ok h6 a1)
      rw [e1, h1, ← sv_sz_ok a2, h5, e2, h2, h3]
      rfl
    obtain ⟨s, hs, c1, c2⟩ := sv_find_ok h
    unfold sv_can2 at c1
    simp only [Bool.and_eq_true] at c1
    obtain ⟨c3, c4, c5⟩ := c1
    have e3 := ia_beq c3
    unfold sv_use at c2
    simp only [Bool.and_eq_true, sv_frc_eq] at c2
    obtain ⟨⟨u1, u2⟩, u3⟩ := c2
    have hargs : sv_all2 sv_v0 s.2.2.2.1 (cst.take (ia_na y2)).reverse := sv_a2_tr (P := sv_vr Re Rh (fun og x => sv_os w og x ∨ sv_ol clv og x)) (P' := sv_v0) (R := fun a b => sv_s2 false a (match b with
      | .inl b => .inl (b.1, b.2.1, 0, 0, 0)
      | .inr o => .inr o) = true) (fun a b c hab hac => sv_z0 (b := b) (sv_s2_0 hab hac)) (sv_all_ok c4) a1
    have hpre : sv_fs (ia_E (sv_at w s.2.2.1)) 0 s.2.2.2.2.1 w := fun f hf => sv_sp_ok (sv_allb_ok c5 f hf) s3 s4
    obtain ⟨⟨r, w'⟩, hC, hG, hF, q, hq1, hq2, hq3, hq4⟩ := hV s hs _ w hargs hpre s4
    rw [e3] at hC
    have hC' : cm_C d y2 (cst.take (ia_na y2)).reverse w (r, w') := cm_C_mono (Nat.le_of_lt_succ (ia_blt u1)) hC
    have hr : sv_i Re Rh (sv_fv fs s.2.2.1 (0, 4294967295, 0, 0, 0)) (sv_at w s.2.2.1) := by
      refine sv_fv_T (T := fun v => sv_i Re Rh v (sv_at w s.2.2.1)) (fun f h1 h2 => ?_) ⟨sv_in_top _, Or.inl rfl, Or.inl rfl⟩
      have h3 := s3 f h1
      unfold sv_f1 at h3
      rw [h2] at h3
      exact h3
    have o1 := sv_allb_ok u3 q hq1
    unfold sv_o1 at o1
    rw [sv_can_ok a1 hq3] at o1
    obtain ⟨lv1, fs1, t1, t3, o1⟩ := sv_ars_ok a1 hq3 (show sv_ars (st.take (ia_na y2)).reverse q.2.1 lv fs _ = true from o1) s1 s3
    obtain ⟨fs2, t4, o1⟩ := sv_mapK_fs (w' := w') (sv_fc_ok hr hG hF hq4) fs1 _ t3 o1
    obtain ⟨lv2, t5, o1⟩ := sv_cl_ok (Re := Re) (Rh := Rh) o1
    obtain ⟨st2, t6, o1⟩ := sv_cs_ok (Re := Re) (Rh := Rh) o1
    rw [sv_nx_eq] at o1
    refine cm_X_call hd hq hC' (hk _ _ _ _ o1 _ _ _ ⟨t5 _ _ _ t1, sv_back_ok hq2 (t6 _ _ _ a2), t4, hG, ?_, s6⟩)
    intro a b hab
    have hab' : ¬ sv_hit s.2.2.2.2.2.1 a b := by
      rintro ⟨r, r1, r2, r3, r4⟩
      have := sv_wr_ok (sv_allb_ok u2 r r1) r3 r4
      rw [r2] at this
      exact hab this
    exact ⟨(hF a b hab').1.trans (s5 a b hab).1, (hF a b hab').2.trans (s5 a b hab).2⟩
  · cases h
theorem sv_inv_ok (hV : ∀ s ∈ S, sv_valid G s) (hk : sv_kok (cm_C d) y Q G W na Re Rh lv0 w0 k) {i : Nat} (hd : decode (ia_code y) pc = .ok (.invokestatic i, 3)) (h : sv_inv G S W (d + 1) y i k pc lv st fs = true) (hS : sv_St G W na Re Rh lv0 w0 lv st fs clv cst w) : cm_X (cm_C d) y pc clv cst w Q := by
  unfold sv_inv at h
  split at h
  · exact sv_cal_ok hV hk hd (kd := 1) rfl h hS
  · rename_i z1 z2 z3 z4 hpl
    exact sv_cpy_ok hk hd hpl rfl h hS
  · rename_i z1 z2 z3 z4 hpl
    split at h
    · rename_i b a t
      rw [Bool.and_eq_true] at h
      obtain ⟨s1, s2, s3, s4, s5, s6⟩ := id hS
      refine sv_bin_ok (pd := Nat.add pc 2) sv_min_ok (fun _ => True) (fun _ _ _ _ _ _ => trivial) hk hd (fun x z ct he _ => ?_) h.2 hS
      subst he
      obtain ⟨c1, ct1, e1, hP1, s2b⟩ := sv_cons s2
      cases e1
      obtain ⟨c2, ct2, e2, hP2, s2c⟩ := sv_cons s2b
      cases e2
      show cm_inv y i pc clv (.inl z :: .inl x :: ct) w = _
      unfold cm_inv
      rw [hpl]
      exact cm_ifk (by rw [← sv_sz_ok s2c]; exact h.1) rfl
    · cases h
  · rename_i z1 z2 z3 z4 hpl
    split at h
    · rename_i b a t
      rw [Bool.and_eq_true] at h
      obtain ⟨s1, s2, s3, s4, s5, s6⟩ := id hS
      refine sv_bin_ok (pd := Nat.add pc 2) sv_max_ok (fun _ => True) (fun _ _ _ _ _ _ => trivial) hk hd (fun x z ct he _ => ?_) h.2 hS
      subst he
      obtain ⟨c1, ct1, e1, hP1, s2b⟩ := sv_cons s2
      cases e1
      obtain ⟨c2, ct2, e2, hP2, s2c⟩ := sv_cons s2b
      cases e2
      show cm_inv y i pc clv (.inl z :: .inl x :: ct) w = _
      unfold cm_inv
      rw [hpl]
      exact cm_ifk (by rw [← sv_sz_ok s2c]; exact h.1) rfl
    · cases h
  · cases h
/-- the first arguments, by the locals of the start -/
def sv_la (b : sv_V) (c : Option cm_V) : Prop := ∃ c', c = some c' ∧ sv_v0 b c'
theorem sv_end_ok {outs : List sv_OUT} {as0 : List cm_V} {r : Option sv_V} {cr : Option cm_V} (hpre : ∀ ar : List sv_V, ar.length ≤ na → sv_all2 sv_la ar (lv0.take ar.length) → sv_pre ar as0) (h : sv_end G na outs r lv fs = true) (hr : sv_r0 r cr) (s1 : sv_all2 (sv_ov (sv_vr Re Rh (sv_os w))) lv clv) (s3 : sv_fs Re Rh fs w) (s4 : sv_w G w) (s6 : sv_pa na lv0 clv) : ∃ q ∈ outs, sv_r0 q.1 cr ∧ sv_pre q.2.1 as0 ∧ sv_fs Re 0 (q.2.2.map (fun f => (f.1, f.2.1, f.2.2.1, f.2.2.2.1, 0))) w := by
  obtain ⟨q, hq, h⟩ := sv_anyb_ok h
  simp only [Bool.and_eq_true] at h
  obtain ⟨h1, h2, h3, h4⟩ := h
  have hna := ia_ble h2
  refine ⟨q, hq, ?_, hpre _ hna ?_, ?_⟩
  · split at h1
    · rename_i a b e1
      rw [e1]
      rw [Bool.and_eq_true] at h1
      match cr, hr with
      | some (.inl x), hr => exact ⟨Nat.le_trans (ia_ble h1.1) hr.1, Nat.le_trans hr.2 (ia_ble h1.2)⟩
    · rename_i e1
      rw [e1]
      match cr, hr with
      | some (.inr (.inl x)), hr => exact True.intro
    · rename_i e1
      rw [e1]
      match cr, hr with
      | none, hr => exact True.intro
    · cases h1
  · have e : lv0.take q.2.1.length = clv.take q.2.1.length := by
      apply List.ext_getElem?
      intro j
      rw [List.getElem?_take, List.getElem?_take]
      by_cases hj : j < q.2.1.length
      · rw [if_pos hj, if_pos hj, ← ia_at_eq, ← ia_at_eq, s6 j (by omega)]
      · rw [if_neg hj, if_neg hj]
    rw [e]
    have b1 := sv_a2_take q.2.1.length s1
    have b2 := sv_all_ok h3
    have go : ∀ (ar : List sv_V) (l : sv_L) (m : cm_L), sv_all2 (fun b a => sv_s3 false a (some (match b with
        | .inl b => .inl (b.1, b.2.1, 0, 0, 0)
        | .inr o => .inr o)) = true) ar l → sv_all2 (sv_ov (sv_vr Re Rh (sv_os w))) l m → sv_all2 sv_la ar m := by
      intro ar
      induction ar with
      | nil => intro l m z1 z2; rw [sv_nil z1] at z2; rw [sv_nil z2]; trivial
      | cons b ar ih =>
        intro l m z1 z2
        obtain ⟨a, l', rfl, z3, z4⟩ := sv_cons z1
        obtain ⟨c, m', rfl, z5, z6⟩ := sv_cons z2
        refine ⟨?_, ih l' m' z4 z6⟩
        match a, c, z3, z5 with
        | some a, some c, z3, z5 => exact ⟨c, rfl, sv_z0 (sv_s2_0 z3 z5)⟩
        | none, _, z3, _ => cases z3
    exact go _ _ _ b2 b1
  · intro f hf
    obtain ⟨g, hg, rfl⟩ := List.mem_map.mp hf
    have h5 := sv_sf_ok (sv_allb_ok h4 g hg) s3 s4
    exact ⟨h5.1, h5.2.1, Or.inl rfl⟩
end SVW

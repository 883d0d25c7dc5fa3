/-! ## the checker is right: switches, fields, longs, copies -/
section SVV
variable {C : Nat → List cm_V → cm_W → cm_O → Prop} {y : Nat} {Q : cm_O → Prop} {G : sv_GT} {W : sv_WR} {na Re Rh : Nat} {lv0 : cm_L} {w0 : cm_W} {k : sv_K}
variable {pc : Nat} {lv : sv_L} {st : List sv_V} {fs : sv_F} {clv : cm_L} {cst : List cm_V} {w : cm_W} {ins : Instr} {len : Nat}
theorem sv_Ei (x : Int32) : (x.toInt + 2147483648).toNat = ia_E x := by
  rw [ia_toInt]
  omega
theorem sv_in_i {a : sv_I} {x : Int32} (h : sv_in (a.1, a.2.1) x) : Int.ofNat a.1 - 2147483648 ≤ x.toInt ∧ x.toInt ≤ Int.ofNat a.2.1 - 2147483648 := by
  obtain ⟨h1, h2⟩ := h
  have h1' : a.1 ≤ ia_E x := h1
  have h2' : ia_E x ≤ a.2.1 := h2
  rw [ia_toInt]
  show (a.1 : Int) - 2147483648 ≤ _ ∧ _ ≤ (a.2.1 : Int) - 2147483648
  omega
theorem sv_self (x : Int32) : sv_in (ia_E x, ia_E x) x := ⟨Nat.le_refl _, Nat.le_refl _⟩
theorem sv_tsl_ok {a : sv_I} {x : Int32} (hx : sv_in (a.1, a.2.1) x) : ∀ (os : List Int) (v : Int), sv_tsl a pc k lv st fs os v = true → ∀ (j : Nat) (o : Int), ia_at os j = some o → x.toInt = v + j → sv_rf a.2.2.2.2 (ia_E x, ia_E x) lv fs (fun lv fs => sv_jmp o k pc lv st fs) = true
  | [], _, _, j, o, h, _ => by cases h
  | o0 :: os, v, h, j, o, hj, hv => by
    have h' : cond (decide (Int.ofNat a.1 - 2147483648 ≤ v) && decide (v ≤ Int.ofNat a.2.1 - 2147483648)) (cond (sv_rf a.2.2.2.2 ((v + 2147483648).toNat, (v + 2147483648).toNat) lv fs (fun lv fs => sv_jmp o0 k pc lv st fs)) (sv_tsl a pc k lv st fs os (v + 1)) false) (sv_tsl a pc k lv st fs os (v + 1)) = true := h
    match j, hj, hv with
    | 0, hj, hv =>
      cases hj
      have e : x.toInt = v := by omega
      obtain ⟨b1, b2⟩ := sv_in_i hx
      rw [← e, decide_eq_true b1, decide_eq_true b2, sv_Ei] at h'
      rcases sv_cnd h' with ⟨_, h2⟩ | ⟨z, _⟩
      · rcases sv_cnd h2 with ⟨h3, _⟩ | ⟨_, z⟩
        · exact h3
        · cases z
      · cases z
    | j + 1, hj, hv =>
      have h2 : sv_tsl a pc k lv st fs os (v + 1) = true := by
        rcases sv_cnd h' with ⟨_, h2⟩ | ⟨_, h2⟩
        · rcases sv_cnd h2 with ⟨_, h3⟩ | ⟨_, z⟩
          · exact h3
          · cases z
        · exact h2
      exact sv_tsl_ok hx os (v + 1) h2 j o hj (by rw [hv]; omega)
theorem sv_tsw_ok {d lo hi : Int} {os : Array Int} (hk : sv_kok C y Q G W na Re Rh lv0 w0 k) (hd : decode (ia_code y) pc = .ok (ins, len)) (hdo : cm_do y pc ins len clv cst w = cm_tsw d lo hi os pc clv cst w) (h : sv_tsw d lo hi os.toList k pc lv st fs = true) (hS : sv_St G W na Re Rh lv0 w0 lv st fs clv cst w) : cm_X C y pc clv cst w Q := by
  obtain ⟨s1, s2, s3, s4, s5, s6⟩ := hS
  unfold sv_tsw at h
  split at h
  · rename_i a t
    simp only [Bool.and_eq_true] at h
    obtain ⟨h1, h2, h3⟩ := h
    obtain ⟨c1, ct, rfl, hP1, s2c⟩ := sv_cons s2
    obtain ⟨x, rfl, x1, x2⟩ := sv_vr_int hP1
    have hdo' : cm_do y pc ins len clv (.inl x :: ct) w = (match decide (x.toInt < lo) || decide (hi < x.toInt) with
      | true => cm_jmp d pc clv ct w
      | false => (match ia_at os.toList (x.toInt - lo).toNat with
        | some o => cm_jmp o pc clv ct w
        | none => none)) := hdo
    obtain ⟨b1, b2⟩ := sv_in_i x1.1
    cases hz : (decide (x.toInt < lo) || decide (hi < x.toInt)) with
    | true =>
      rw [hz] at hdo'
      rcases sv_cnd h2 with ⟨q, _⟩ | ⟨_, h2⟩
      · rw [Bool.and_eq_true] at q
        have q1 := of_decide_eq_true q.1
        have q2 := of_decide_eq_true q.2
        rw [Bool.or_eq_true] at hz
        rcases hz with hz | hz
        · have := of_decide_eq_true hz; omega
        · have := of_decide_eq_true hz; omega
      · exact sv_jmp_ok hk hd (cst' := ct) hdo' h2 ⟨s1, s2c, s3, s4, s5, s6⟩
    | false =>
      rw [hz] at hdo'
      rw [Bool.or_eq_false_iff] at hz
      have z1 := of_decide_eq_false hz.1
      have z2 := of_decide_eq_false hz.2
      have q1 := of_decide_eq_true h1
      have q1' : hi - lo < (os.toList.length : Int) := q1
      have hlt : (x.toInt - lo).toNat < os.toList.length := by omega
      have ho : ia_at os.toList (x.toInt - lo).toNat = some (os.toList[(x.toInt - lo).toNat]'hlt) := by
        rw [ia_at_eq]
        exact List.getElem?_eq_getElem hlt
      have hdo2 : cm_do y pc ins len clv (.inl x :: ct) w = cm_jmp (os.toList[(x.toInt - lo).toNat]'hlt) pc clv ct w := by
        rw [hdo']
        show (match ia_at os.toList (x.toInt - lo).toNat with
          | some o => cm_jmp o pc clv ct w
          | none => none) = _
        rw [ho]
      have h4 := sv_tsl_ok x1.1 _ _ h3 _ _ ho (by omega)
      obtain ⟨lv1, fs1, t1, t3, h5⟩ := sv_rf_ok h4 x2 (sv_self x) s1 s3
      exact sv_jmp_ok hk hd (cst' := ct) hdo2 h5 ⟨t1, s2c, t3, s4, s5, s6⟩
  · cases h
theorem sv_lko (df : Int) (x : Int) : ∀ ps : List (Int × Int), Op.lookupswitch.offset ps df x = df ∨ ∃ p ∈ ps, p.1 = x ∧ Op.lookupswitch.offset ps df x = p.2
  | [] => Or.inl rfl
  | p :: ps => by
    obtain ⟨a, o⟩ := p
    rw [Op.lookupswitch.offset_cons]
    by_cases hz : a = x
    · rw [if_pos hz]
      exact Or.inr ⟨(a, o), List.mem_cons_self, hz, rfl⟩
    · rw [if_neg hz]
      rcases sv_lko df x ps with h | ⟨p, h1, h2⟩
      · exact Or.inl h
      · exact Or.inr ⟨p, List.mem_cons_of_mem _ h1, h2⟩
theorem sv_lks_ok {d : Int} {ps : Array (Int × Int)} (hk : sv_kok C y Q G W na Re Rh lv0 w0 k) (hd : decode (ia_code y) pc = .ok (ins, len)) (hdo : cm_do y pc ins len clv cst w = cm_lks d ps pc clv cst w) (h : sv_lks d ps.toList k pc lv st fs = true) (hS : sv_St G W na Re Rh lv0 w0 lv st fs clv cst w) : cm_X C y pc clv cst w Q := by
  obtain ⟨s1, s2, s3, s4, s5, s6⟩ := hS
  unfold sv_lks at h
  split at h
  · rename_i a t
    simp only [Bool.and_eq_true] at h
    obtain ⟨h1, h2, h3⟩ := h
    obtain ⟨c1, ct, rfl, hP1, s2c⟩ := sv_cons s2
    obtain ⟨x, rfl, x1, x2⟩ := sv_vr_int hP1
    have hdo' : cm_do y pc ins len clv (.inl x :: ct) w = cm_jmp (Op.lookupswitch.offset ps.toList d x.toInt) pc clv ct w := by
      rw [hdo]
      exact cm_ifk h1 rfl
    rcases sv_lko d x.toInt ps.toList with e | ⟨p, hp, e1, e2⟩
    · rw [e] at hdo'
      exact sv_jmp_ok hk hd (cst' := ct) hdo' h2 ⟨s1, s2c, s3, s4, s5, s6⟩
    · rw [e2] at hdo'
      have h4 := sv_allb_ok h3 p hp
      obtain ⟨b1, b2⟩ := sv_in_i x1.1
      rw [e1, decide_eq_true b1, decide_eq_true b2, sv_Ei] at h4
      obtain ⟨lv1, fs1, t1, t3, h5⟩ := sv_rf_ok (show sv_rf a.2.2.2.2 (ia_E x, ia_E x) lv fs (fun lv fs => sv_jmp p.2 k pc lv t fs) = true from h4) x2 (sv_self x) s1 s3
      exact sv_jmp_ok hk hd (cst' := ct) hdo' h5 ⟨t1, s2c, t3, s4, s5, s6⟩
  · cases h
theorem sv_get_ok {n i z pc' : Nat} (hk : sv_kok C y Q G W na Re Rh lv0 w0 k) (hd : decode (ia_code y) pc = .ok (ins, len)) {cst' : List cm_V} (hdo : cm_do y pc ins len clv cst w = some (pc', clv, cm_v w n i z :: cst', w)) (h : sv_get G n i z k pc' lv st fs = true) (hi : i < 16384) (hS : sv_St G W na Re Rh lv0 w0 lv st fs clv cst' w) : cm_X C y pc clv cst w Q := by
  obtain ⟨s1, s2, s3, s4, s5, s6⟩ := hS
  match z, h, hdo with
  | 0, h, hdo =>
    have h' : sv_frc (sv_rd G fs n i) (fun v => sv_nx k pc' lv (.inl v :: st) fs) = true := h
    rw [sv_frc_eq, sv_nx_eq] at h'
    obtain ⟨r1, r2⟩ := sv_rd_ok (k := n) hi s3 s4
    exact cm_X_do hd hdo (hk _ _ _ _ h' _ _ _ ⟨s1, ⟨⟨r1, r2.imp id Or.inl⟩, s2⟩, s3, s4, s5, s6⟩)
  | 1, h, hdo =>
    have h' : sv_nx k pc' lv (.inr none :: st) fs = true := h
    rw [sv_nx_eq] at h'
    exact cm_X_do hd hdo (hk _ _ _ _ h' _ _ _ ⟨s1, ⟨True.intro, s2⟩, s3, s4, s5, s6⟩)
  | 2, h, hdo => cases h
  | z + 3, h, hdo =>
    have h' : sv_nx k pc' lv (.inr (some z) :: st) fs = true := h
    rw [sv_nx_eq] at h'
    exact cm_X_do hd hdo (hk _ _ _ _ h' _ _ _ ⟨s1, ⟨rfl, s2⟩, s3, s4, s5, s6⟩)
theorem sv_ald_ok (hk : sv_kok C y Q G W na Re Rh lv0 w0 k) (hd : decode (ia_code y) pc = .ok (ins, len)) (hdo : cm_do y pc ins len clv cst w = cm_al 51 pc clv cst w) (h : sv_ald k pc lv st fs = true) (hS : sv_St G W na Re Rh lv0 w0 lv st fs clv cst w) : cm_X C y pc clv cst w Q := by
  obtain ⟨s1, s2, s3, s4, s5, s6⟩ := hS
  unfold sv_ald at h
  split at h
  · rename_i a n t
    obtain ⟨c1, ct1, rfl, hP1, s2b⟩ := sv_cons s2
    obtain ⟨c2, ct, rfl, hP2, s2c⟩ := sv_cons s2b
    obtain ⟨x, rfl, x1, -⟩ := sv_vr_int hP1
    have e2 := sv_vr_ref hP2
    subst e2
    obtain ⟨c, hc, h1, h2, h3, -⟩ := sv_ix_ok h x1.1
    rw [Bool.and_eq_true, sv_nx_eq] at h3
    have e3 : cm_v w n x.toInt.toNat (cm_code c x.toInt.toNat) = .inr (.inl (w.2 n x.toInt.toNat)) := by
      rw [sv_code1 h3.1 (ia_beq h1)]
      rfl
    have hq : cm_do y pc ins len clv (.inl x :: .inr (.inr (some n)) :: ct) w = some (Nat.add pc 1, clv, .inr (.inl (w.2 n x.toInt.toNat)) :: ct, w) := by
      rw [hdo]
      unfold cm_al
      show (match cm_sh n with
        | some c => ia_if (Nat.beq c.1 51 && cm_in x c.2.1) (cm_nx (Nat.add pc 1) clv (cm_v w n x.toInt.toNat (cm_code c x.toInt.toNat) :: ct) w)
        | none => none) = _
      rw [hc]
      refine cm_ifk (by rw [h1, h2]; rfl) ?_
      rw [e3]
      rfl
    exact cm_X_do hd hq (hk _ _ _ _ h3.2 _ _ _ ⟨s1, ⟨True.intro, s2c⟩, s3, s4, s5, s6⟩)
  · cases h
theorem sv_ala_ok {tg : Nat} (hk : sv_kok C y Q G W na Re Rh lv0 w0 k) (hd : decode (ia_code y) pc = .ok (ins, len)) (hdo : cm_do y pc ins len clv cst w = cm_al tg pc clv cst w) (h : sv_ala tg k pc lv st fs = true) (hS : sv_St G W na Re Rh lv0 w0 lv st fs clv cst w) : cm_X C y pc clv cst w Q := by
  obtain ⟨s1, s2, s3, s4, s5, s6⟩ := hS
  unfold sv_ala at h
  split at h
  · rename_i a n t
    obtain ⟨c1, ct1, rfl, hP1, s2b⟩ := sv_cons s2
    obtain ⟨c2, ct, rfl, hP2, s2c⟩ := sv_cons s2b
    obtain ⟨x, rfl, x1, -⟩ := sv_vr_int hP1
    have e2 := sv_vr_ref hP2
    subst e2
    obtain ⟨c, hc, h1, h2, h3, b1, b2, b3, b4⟩ := sv_ix_ok h x1.1
    rw [Bool.and_eq_true] at h3
    have hlen := ia_ble h3.1
    have hlt : x.toInt.toNat < c.2.2.length := Nat.lt_of_lt_of_le (Nat.lt_of_le_of_lt b2 b3) hlen
    have h4 := sv_allb_ok h3.2 _ (List.getElem_mem hlt)
    rw [Bool.and_eq_true, sv_nx_eq] at h4
    have h5 : 3 ≤ c.2.2[x.toInt.toNat] := ia_ble h4.1
    have e3 : cm_code c x.toInt.toNat = (c.2.2[x.toInt.toNat] - 3) + 3 := by
      unfold cm_code
      rw [ia_at_eq, List.getElem?_eq_getElem hlt]
      show c.2.2[x.toInt.toNat] = _
      omega
    have hq : cm_do y pc ins len clv (.inl x :: .inr (.inr (some n)) :: ct) w = some (Nat.add pc 1, clv, .inr (.inr (some (c.2.2[x.toInt.toNat] - 3))) :: ct, w) := by
      rw [hdo]
      unfold cm_al
      show (match cm_sh n with
        | some c => ia_if (Nat.beq c.1 tg && cm_in x c.2.1) (cm_nx (Nat.add pc 1) clv (cm_v w n x.toInt.toNat (cm_code c x.toInt.toNat) :: ct) w)
        | none => none) = _
      rw [hc]
      refine cm_ifk (by rw [h1, h2]; rfl) ?_
      rw [e3]
      rfl
    exact cm_X_do hd hq (hk _ _ _ _ h4.2 _ _ _ ⟨s1, ⟨rfl, s2c⟩, s3, s4, s5, s6⟩)
  · cases h
theorem sv_asl_ok (hk : sv_kok C y Q G W na Re Rh lv0 w0 k) (hd : decode (ia_code y) pc = .ok (ins, len)) (hdo : cm_do y pc ins len clv cst w = cm_asl pc clv cst w) (h : sv_asl W k pc lv st fs = true) (hS : sv_St G W na Re Rh lv0 w0 lv st fs clv cst w) : cm_X C y pc clv cst w Q := by
  obtain ⟨s1, s2, s3, s4, s5, s6⟩ := hS
  unfold sv_asl at h
  split at h
  · rename_i a n t
    obtain ⟨c0, ct0, rfl, hP0, s2a⟩ := sv_cons s2
    obtain ⟨c1, ct1, rfl, hP1, s2b⟩ := sv_cons s2a
    obtain ⟨c2, ct, rfl, hP2, s2c⟩ := sv_cons s2b
    obtain ⟨z, rfl⟩ := sv_vr_long hP0
    obtain ⟨x, rfl, x1, -⟩ := sv_vr_int hP1
    have e2 := sv_vr_ref hP2
    subst e2
    obtain ⟨c, hc, h1, h2, h3, b1, b2, b3, b4⟩ := sv_ix_ok h x1.1
    simp only [Bool.and_eq_true, sv_nx_eq] at h3
    have hq : cm_do y pc ins len clv (.inr (.inl z) :: .inl x :: .inr (.inr (some n)) :: ct) w = some (Nat.add pc 1, clv, ct, cm_u2 w n x.toInt.toNat z) := by
      rw [hdo]
      unfold cm_asl
      show (match cm_sh n with
        | some c => ia_if (Nat.beq c.1 51 && (cm_in x c.2.1 && Nat.beq (cm_code c x.toInt.toNat) 1)) (cm_nx (Nat.add pc 1) clv ct (cm_u2 w n x.toInt.toNat z))
        | none => none) = _
      rw [hc]
      exact cm_ifk (by rw [h1, h2, sv_code1 h3.1.1 (ia_beq h1)]; rfl) rfl
    exact cm_X_do hd hq (hk _ _ _ _ h3.2 _ _ _ ⟨s1, s2c, s3, s4, sv_fr_u2 s5 (sv_wr_ok h3.1.2 b1 b2), s6⟩)
  · cases h
end SVV

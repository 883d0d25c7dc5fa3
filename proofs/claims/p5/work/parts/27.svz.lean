/-! ## the checker is right: every instruction -/
section SVZ
variable {d : Nat} {y : Nat} {Q : cm_O → Prop} {G : sv_GT} {na Re Rh : Nat} {lv0 : cm_L} {w0 : cm_W} {k : sv_K} {S : List sv_SM} {s : sv_SM} {as0 : List cm_V}
variable {pc : Nat} {lv : sv_L} {st : List sv_V} {fs : sv_F} {clv : cm_L} {cst : List cm_V} {w : cm_W} {ins : Instr} {len : Nat}
theorem sv_nz_ok {b : sv_I} {x : Int32} (h : sv_nz b = true) (hx : sv_in (b.1, b.2.1) x) : ¬ x = 0 := by
  intro e
  rw [e] at hx
  obtain ⟨h1, h2⟩ := hx
  have h1' : b.1 ≤ ia_E 0 := h1
  have h2' : ia_E 0 ≤ b.2.1 := h2
  rw [ia_E0] at h1' h2'
  unfold sv_nz at h
  rw [Bool.or_eq_true] at h
  rcases h with h | h
  · have := ia_ble h; omega
  · have := ia_blt h; omega
theorem sv_kn_ok {O : Nat → Int32 → Prop} {o : Nat} (h : sv_all2 (sv_vr Re Rh O) st cst) {tg : Nat} (htg : tg ≠ 99) (hz : Nat.beq (sv_kn st o) tg = true) : Nat.beq (cm_kn cst o) tg = true := by
  unfold sv_kn at hz
  unfold cm_kn
  split at hz
  · rename_i n hn
    obtain ⟨b, hb, hP⟩ := sv_a2_at h hn
    have e := sv_vr_ref hP
    subst e
    rw [hb]
    exact hz
  · exact absurd (ia_beq hz).symm htg
theorem sv_kn_no {n o tg : Nat} {c : Nat × Nat × List Nat} (hn : ia_at cst o = some (.inr (.inr (some n)))) (hc : cm_sh n = some c) (h : Nat.beq c.1 tg = true) : cm_kn cst o = tg := by
  unfold cm_kn
  rw [hn]
  show (match cm_sh n with
    | some c => c.1
    | none => 99) = tg
  rw [hc]
  exact ia_beq h
theorem sv_ret_ok {r : Option sv_V} {cr : Option cm_V} (hpre : ∀ ar : List sv_V, ar.length ≤ na → sv_all2 sv_la ar (lv0.take ar.length) → sv_pre ar as0) (hQ : ∀ r w, sv_w G w → sv_fr s.2.2.2.2.2.1 w0 w → (∃ q ∈ s.2.2.2.2.2.2, sv_r0 q.1 r ∧ sv_pre q.2.1 as0 ∧ sv_fs Re 0 (q.2.2.map (fun f => (f.1, f.2.1, f.2.2.1, f.2.2.2.1, 0))) w) → Q (r, w)) (hd : decode (ia_code y) pc = .ok (ins, len)) (hret : cm_ret y ins len cst = some cr) (hr : sv_r0 r cr) (h : sv_end G na s.2.2.2.2.2.2 r lv fs = true) (hS : sv_St G s.2.2.2.2.2.1 na Re Rh lv0 w0 lv st fs clv cst w) : cm_X (cm_C d) y pc clv cst w Q := by
  obtain ⟨s1, s2, s3, s4, s5, s6⟩ := hS
  exact cm_X_ret hd hret (hQ cr w s4 s5 (sv_end_ok hpre h hr s1 s3 s4 s6))
theorem sv_bool (x : Int32) : sv_in (2147483648, 2147483649) (vp_nar .boolean x) := by
  have e : vp_nar .boolean x = x &&& 1 := rfl
  rw [e]
  have e1 : ia_E 1 = 2147483649 := by decide
  have h := sv_and0_ok (sv_top) (2147483649, 2147483649) x 1 (sv_in_top x) ⟨Nat.le_of_eq e1.symm, Nat.le_of_eq e1⟩
  exact h
theorem sv_ofit_ok {ty : FieldType} {a : sv_I} {x : Int32} (h : sv_ofit ty a = true) (hx : sv_in (a.1, a.2.1) x) : ia_nar ty (ia_E x) = true := by
  unfold sv_ofit at h
  split at h
  · rfl
  · rw [Bool.and_eq_true] at h
    have l1 := ia_ble h.1
    have l2 := ia_ble h.2
    obtain ⟨y1, y2⟩ := hx
    have y1' : a.1 ≤ ia_E x := y1
    have y2' : ia_E x ≤ a.2.1 := y2
    have : ia_E x = 2147483648 ∨ ia_E x = 2147483649 := by omega
    rcases this with q | q
    · rw [q]; rfl
    · rw [q]; rfl
  · cases h
set_option maxHeartbeats 4000000 in
set_option maxRecDepth 10000 in
theorem sv_do_ok (hV : ∀ s ∈ S, sv_valid G s) (hdep : s.2.1 = d + 1) (hpre : ∀ ar : List sv_V, ar.length ≤ na → sv_all2 sv_la ar (lv0.take ar.length) → sv_pre ar as0) (hQ : ∀ r w, sv_w G w → sv_fr s.2.2.2.2.2.1 w0 w → (∃ q ∈ s.2.2.2.2.2.2, sv_r0 q.1 r ∧ sv_pre q.2.1 as0 ∧ sv_fs Re 0 (q.2.2.map (fun f => (f.1, f.2.1, f.2.2.1, f.2.2.2.1, 0))) w) → Q (r, w)) (hk : sv_kok (cm_C d) y Q G s.2.2.2.2.2.1 na Re Rh lv0 w0 k) (hd : decode (ia_code y) pc = .ok (ins, len)) (h : sv_do G S s na y ins len k pc lv st fs = true) (hS : sv_St G s.2.2.2.2.2.1 na Re Rh lv0 w0 lv st fs clv cst w) : cm_X (cm_C d) y pc clv cst w Q := by
  obtain ⟨s1, s2, s3, s4, s5, s6⟩ := id hS
  cases ins
  all_goals (try (cases (show false = true from h)))
  case iconst c =>
    replace h := Bool.and_eq_true_iff.mp (show (_ && _) = true from h)
    have hlen := ia_beq h.1
    replace h := h.2
    subst hlen
    exact sv_pu_ok (x := Int32.ofInt c) hk hd s2 rfl rfl h s1 s3 s4 s5 s6
  case bipush c =>
    replace h := Bool.and_eq_true_iff.mp (show (_ && _) = true from h)
    have hlen := ia_beq h.1
    replace h := h.2
    subst hlen
    exact sv_pu_ok (x := (Int8.ofInt c).toInt32) hk hd s2 rfl rfl h s1 s3 s4 s5 s6
  case sipush c =>
    replace h := Bool.and_eq_true_iff.mp (show (_ && _) = true from h)
    have hlen := ia_beq h.1
    replace h := h.2
    subst hlen
    exact sv_pu_ok (x := (Int16.ofInt c).toInt32) hk hd s2 rfl rfl h s1 s3 s4 s5 s6
  case lconst c =>
    replace h := Bool.and_eq_true_iff.mp (show (_ && _) = true from h)
    have hlen := ia_beq h.1
    replace h := h.2
    subst hlen
    rw [sv_nx_eq] at h
    exact cm_X_do hd rfl (hk _ _ _ _ h _ _ _ ⟨s1, ⟨True.intro, s2⟩, s3, s4, s5, s6⟩)
  case iload_n i =>
    replace h := Bool.and_eq_true_iff.mp (show (_ && _) = true from h)
    have hlen := ia_beq h.1
    replace h := h.2
    subst hlen
    exact sv_ld_ok hk hd rfl h hS
  case iload i =>
    replace h := Bool.and_eq_true_iff.mp (show (_ && _) = true from h)
    have hlen := ia_beq h.1
    replace h := h.2
    subst hlen
    exact sv_ld_ok hk hd rfl h hS
  case lload_n i =>
    replace h := Bool.and_eq_true_iff.mp (show (_ && _) = true from h)
    have hlen := ia_beq h.1
    replace h := h.2
    subst hlen
    exact sv_ld_ok hk hd rfl h hS
  case aload_n i =>
    replace h := Bool.and_eq_true_iff.mp (show (_ && _) = true from h)
    have hlen := ia_beq h.1
    replace h := h.2
    subst hlen
    exact sv_ld_ok hk hd rfl h hS
  case aload i =>
    replace h := Bool.and_eq_true_iff.mp (show (_ && _) = true from h)
    have hlen := ia_beq h.1
    replace h := h.2
    subst hlen
    exact sv_ld_ok hk hd rfl h hS
  case istore_n i =>
    replace h := Bool.and_eq_true_iff.mp (show (_ && _) = true from h)
    have hq := Bool.and_eq_true_iff.mp h.1
    have hm := hq.2
    have hlen := ia_beq hq.1
    replace h := h.2
    clear hq
    subst hlen
    exact sv_sto_ok hk hd (cm_ifk (by rw [hm]; rfl) rfl) h hS
  case istore i =>
    replace h := Bool.and_eq_true_iff.mp (show (_ && _) = true from h)
    have hq := Bool.and_eq_true_iff.mp h.1
    have hm := hq.2
    have hlen := ia_beq hq.1
    replace h := h.2
    clear hq
    subst hlen
    exact sv_sto_ok hk hd (cm_ifk (by rw [hm]; rfl) rfl) h hS
  case astore_n i =>
    replace h := Bool.and_eq_true_iff.mp (show (_ && _) = true from h)
    have hq := Bool.and_eq_true_iff.mp h.1
    have hm := hq.2
    have hlen := ia_beq hq.1
    replace h := h.2
    clear hq
    subst hlen
    exact sv_sto_ok hk hd (cm_ifk (by rw [hm]; rfl) rfl) h hS
  case astore i =>
    replace h := Bool.and_eq_true_iff.mp (show (_ && _) = true from h)
    have hq := Bool.and_eq_true_iff.mp h.1
    have hm := hq.2
    have hlen := ia_beq hq.1
    replace h := h.2
    clear hq
    subst hlen
    exact sv_sto_ok hk hd (cm_ifk (by rw [hm]; rfl) rfl) h hS
  case lstore_n i =>
    replace h := Bool.and_eq_true_iff.mp (show (_ && _) = true from h)
    have hq := Bool.and_eq_true_iff.mp h.1
    have hm := hq.2
    have hlen := ia_beq hq.1
    replace h := h.2
    clear hq
    subst hlen
    exact sv_stl_ok hk hd (cm_ifk (by rw [hm]; rfl) rfl) h hS
  case iinc i dd =>
    replace h := Bool.and_eq_true_iff.mp (show (_ && _) = true from h)
    have hq := Bool.and_eq_true_iff.mp h.1
    have hm := hq.2
    have hlen := ia_beq hq.1
    replace h := h.2
    clear hq
    subst hlen
    simp only [Bool.and_eq_true] at hm
    obtain ⟨m1, m2, m3⟩ := hm
    split at h
    · rename_i a ha
      rw [ia_frc_eq, sv_frc_eq] at h
      obtain ⟨b, hb, hP⟩ := sv_a2_at s1 ha
      match b, hP with
      | some c, hP =>
        obtain ⟨x, rfl, x1, -⟩ := sv_vr_int hP
        obtain ⟨st', t6, h⟩ := sv_cs_ok (Re := Re) (Rh := Rh) h
        rw [ia_setK_eq, sv_nx_eq] at h
        obtain ⟨u1, u2⟩ := sv_sum_ok (b := (ia_E (Int32.ofInt dd), ia_E (Int32.ofInt dd), 0, 0, 0)) x1 (sv_self (Int32.ofInt dd))
        have hq : cm_do y pc (.iinc i dd) 3 clv cst w = some (Nat.add pc 3, clv.set i (some (.inl (x + Int32.ofInt dd))), cst, w) := by
          show ia_if (Nat.beq 3 3 && Nat.blt i (ia_maxL y)) (match ia_at clv i with
            | some (some (.inl a)) => ia_if (ia_nl (cm_el clv) i) (cm_nx (Nat.add pc 3) (clv.set i (some (.inl (a + Int32.ofInt dd)))) cst w)
            | _ => none) = _
          refine cm_ifk (by rw [m1]; rfl) ?_
          rw [hb]
          exact cm_ifk (sv_nl_ok sv_vr_l s1 m3) rfl
        exact cm_X_do hd hq (hk _ _ _ _ h _ _ _ ⟨sv_a2_set (P := sv_ov (sv_vr Re Rh (sv_os w))) i s1 ⟨u1, Or.inl u2⟩, t6 _ _ _ s2, s3, s4, s5, sv_pa_set s6 (ia_ble m2)⟩)
    · cases h
  case iadd =>
    replace h := Bool.and_eq_true_iff.mp (show (_ && _) = true from h)
    have hlen := ia_beq h.1
    replace h := h.2
    subst hlen
    split at h
    · rename_i b a t
      rw [sv_frc_eq, sv_nx_eq] at h
      obtain ⟨c1, ct1, rfl, hP1, s2b⟩ := sv_cons s2
      obtain ⟨c2, ct, rfl, hP2, s2c⟩ := sv_cons s2b
      obtain ⟨z, rfl, z1, -⟩ := sv_vr_int hP1
      obtain ⟨x, rfl, x1, -⟩ := sv_vr_int hP2
      obtain ⟨u1, u2⟩ := sv_sum_ok x1 z1.1
      exact cm_X_do (q := (Nat.add pc 1, clv, .inl (x + z) :: ct, w)) hd rfl (hk _ _ _ _ h _ _ _ ⟨s1, ⟨⟨u1, Or.inl u2⟩, s2c⟩, s3, s4, s5, s6⟩)
    · cases h
  case isub =>
    replace h := Bool.and_eq_true_iff.mp (show (_ && _) = true from h)
    have hlen := ia_beq h.1
    replace h := h.2
    subst hlen
    exact sv_bin_ok sv_sub_ok (fun _ => True) (fun _ _ _ _ _ _ => trivial) hk hd (fun x z ct he _ => by subst he; rfl) h hS
  case imul =>
    replace h := Bool.and_eq_true_iff.mp (show (_ && _) = true from h)
    have hlen := ia_beq h.1
    replace h := h.2
    subst hlen
    exact sv_bin_ok (sv_ex_ok sv_mul0_ok) (fun _ => True) (fun _ _ _ _ _ _ => trivial) hk hd (fun x z ct he _ => by subst he; rfl) h hS
  case iand =>
    replace h := Bool.and_eq_true_iff.mp (show (_ && _) = true from h)
    have hlen := ia_beq h.1
    replace h := h.2
    subst hlen
    exact sv_bin_ok (sv_ex_ok sv_and0_ok) (fun _ => True) (fun _ _ _ _ _ _ => trivial) hk hd (fun x z ct he _ => by subst he; rfl) h hS
  case ior =>
    replace h := Bool.and_eq_true_iff.mp (show (_ && _) = true from h)
    have hlen := ia_beq h.1
    replace h := h.2
    subst hlen
    exact sv_bin_ok (sv_ex_ok sv_or0_ok) (fun _ => True) (fun _ _ _ _ _ _ => trivial) hk hd (fun x z ct he _ => by subst he; rfl) h hS
  case ixor =>
    replace h := Bool.and_eq_true_iff.mp (show (_ && _) = true from h)
    have hlen := ia_beq h.1
    replace h := h.2
    subst hlen
    exact sv_bin_ok (sv_ex_ok sv_xor0_ok) (fun _ => True) (fun _ _ _ _ _ _ => trivial) hk hd (fun x z ct he _ => by subst he; rfl) h hS
  case ishl =>
    replace h := Bool.and_eq_true_iff.mp (show (_ && _) = true from h)
    have hlen := ia_beq h.1
    replace h := h.2
    subst hlen
    exact sv_bin_ok (sv_ex_ok sv_top_ok) (fun _ => True) (fun _ _ _ _ _ _ => trivial) hk hd (fun x z ct he _ => by subst he; rfl) h hS
  case ishr =>
    replace h := Bool.and_eq_true_iff.mp (show (_ && _) = true from h)
    have hlen := ia_beq h.1
    replace h := h.2
    subst hlen
    exact sv_bin_ok (sv_ex_ok sv_shr0_ok) (fun _ => True) (fun _ _ _ _ _ _ => trivial) hk hd (fun x z ct he _ => by subst he; rfl) h hS
  case iushr =>
    replace h := Bool.and_eq_true_iff.mp (show (_ && _) = true from h)
    have hlen := ia_beq h.1
    replace h := h.2
    subst hlen
    exact sv_bin_ok (sv_ex_ok sv_ushr0_ok) (fun _ => True) (fun _ _ _ _ _ _ => trivial) hk hd (fun x z ct he _ => by subst he; rfl) h hS
  case idiv =>
    replace h := Bool.and_eq_true_iff.mp (show (_ && _) = true from h)
    have hlen := ia_beq h.1
    replace h := h.2
    subst hlen
    split at h
    · rename_i b t0
      rw [Bool.and_eq_true] at h
      refine sv_bin_ok (sv_ex_ok sv_div0_ok) (fun z => ¬ z = 0) (fun a b' t z he hz => ?_) hk hd (fun x z ct he hz => ?_) h.2 hS
      · cases he
        exact sv_nz_ok h.1 hz
      · subst he
        exact cm_ifk (by rw [decide_eq_false hz]; rfl) rfl
    · cases h
  case irem =>
    replace h := Bool.and_eq_true_iff.mp (show (_ && _) = true from h)
    have hlen := ia_beq h.1
    replace h := h.2
    subst hlen
    split at h
    · rename_i b t0
      rw [Bool.and_eq_true] at h
      refine sv_bin_ok (sv_ex_ok sv_rem0_ok) (fun z => ¬ z = 0) (fun a b' t z he hz => ?_) hk hd (fun x z ct he hz => ?_) h.2 hS
      · cases he
        exact sv_nz_ok h.1 hz
      · subst he
        exact cm_ifk (by rw [decide_eq_false hz]; rfl) rfl
    · cases h
  case i2b =>
    replace h := Bool.and_eq_true_iff.mp (show (_ && _) = true from h)
    have hlen := ia_beq h.1
    replace h := h.2
    subst hlen
    split at h
    · rename_i a t
      rw [sv_nx_eq] at h
      obtain ⟨c1, ct, rfl, hP1, s2c⟩ := sv_cons s2
      obtain ⟨x, rfl, x1, -⟩ := sv_vr_int hP1
      exact cm_X_do (q := (Nat.add pc 1, clv, .inl x.toInt8.toInt32 :: ct, w)) hd rfl (hk _ _ _ _ h _ _ _ ⟨s1, ⟨sv_vr_new (sv_in_top _), s2c⟩, s3, s4, s5, s6⟩)
    · cases h
  case i2l =>
    replace h := Bool.and_eq_true_iff.mp (show (_ && _) = true from h)
    have hlen := ia_beq h.1
    replace h := h.2
    subst hlen
    split at h
    · rename_i a t
      rw [sv_nx_eq] at h
      obtain ⟨c1, ct, rfl, hP1, s2c⟩ := sv_cons s2
      obtain ⟨x, rfl, x1, -⟩ := sv_vr_int hP1
      exact cm_X_do (q := (Nat.add pc 1, clv, .inr (.inl x.toInt64) :: ct, w)) hd rfl (hk _ _ _ _ h _ _ _ ⟨s1, ⟨True.intro, s2c⟩, s3, s4, s5, s6⟩)
    · cases h
  case ladd =>
    replace h := Bool.and_eq_true_iff.mp (show (_ && _) = true from h)
    have hlen := ia_beq h.1
    replace h := h.2
    subst hlen
    split at h
    · rename_i t
      rw [sv_nx_eq] at h
      obtain ⟨c1, ct1, rfl, hP1, s2b⟩ := sv_cons s2
      obtain ⟨c2, ct, rfl, hP2, s2c⟩ := sv_cons s2b
      obtain ⟨z, rfl⟩ := sv_vr_long hP1
      obtain ⟨x, rfl⟩ := sv_vr_long hP2
      exact cm_X_do hd rfl (hk _ _ _ _ h _ _ _ ⟨s1, ⟨True.intro, s2c⟩, s3, s4, s5, s6⟩)
    · cases h
  case lmul =>
    replace h := Bool.and_eq_true_iff.mp (show (_ && _) = true from h)
    have hlen := ia_beq h.1
    replace h := h.2
    subst hlen
    split at h
    · rename_i t
      rw [sv_nx_eq] at h
      obtain ⟨c1, ct1, rfl, hP1, s2b⟩ := sv_cons s2
      obtain ⟨c2, ct, rfl, hP2, s2c⟩ := sv_cons s2b
      obtain ⟨z, rfl⟩ := sv_vr_long hP1
      obtain ⟨x, rfl⟩ := sv_vr_long hP2
      exact cm_X_do hd rfl (hk _ _ _ _ h _ _ _ ⟨s1, ⟨True.intro, s2c⟩, s3, s4, s5, s6⟩)
    · cases h
  case lor =>
    replace h := Bool.and_eq_true_iff.mp (show (_ && _) = true from h)
    have hlen := ia_beq h.1
    replace h := h.2
    subst hlen
    split at h
    · rename_i t
      rw [sv_nx_eq] at h
      obtain ⟨c1, ct1, rfl, hP1, s2b⟩ := sv_cons s2
      obtain ⟨c2, ct, rfl, hP2, s2c⟩ := sv_cons s2b
      obtain ⟨z, rfl⟩ := sv_vr_long hP1
      obtain ⟨x, rfl⟩ := sv_vr_long hP2
      exact cm_X_do hd rfl (hk _ _ _ _ h _ _ _ ⟨s1, ⟨True.intro, s2c⟩, s3, s4, s5, s6⟩)
    · cases h
  case lshl =>
    replace h := Bool.and_eq_true_iff.mp (show (_ && _) = true from h)
    have hlen := ia_beq h.1
    replace h := h.2
    subst hlen
    split at h
    · rename_i a t
      rw [sv_nx_eq] at h
      obtain ⟨c1, ct1, rfl, hP1, s2b⟩ := sv_cons s2
      obtain ⟨c2, ct, rfl, hP2, s2c⟩ := sv_cons s2b
      obtain ⟨z, rfl, -, -⟩ := sv_vr_int hP1
      obtain ⟨x, rfl⟩ := sv_vr_long hP2
      exact cm_X_do hd rfl (hk _ _ _ _ h _ _ _ ⟨s1, ⟨True.intro, s2c⟩, s3, s4, s5, s6⟩)
    · cases h
  case lcmp =>
    replace h := Bool.and_eq_true_iff.mp (show (_ && _) = true from h)
    have hlen := ia_beq h.1
    replace h := h.2
    subst hlen
    split at h
    · rename_i t
      rw [sv_nx_eq] at h
      obtain ⟨c1, ct1, rfl, hP1, s2b⟩ := sv_cons s2
      obtain ⟨c2, ct, rfl, hP2, s2c⟩ := sv_cons s2b
      obtain ⟨z, rfl⟩ := sv_vr_long hP1
      obtain ⟨x, rfl⟩ := sv_vr_long hP2
      exact cm_X_do (q := (Nat.add pc 1, clv, .inl (lg_cmp x z) :: ct, w)) hd rfl (hk _ _ _ _ h _ _ _ ⟨s1, ⟨sv_vr_new (sv_in_top _), s2c⟩, s3, s4, s5, s6⟩)
    · cases h
  case dup =>
    replace h := Bool.and_eq_true_iff.mp (show (_ && _) = true from h)
    have hlen := ia_beq h.1
    replace h := h.2
    subst hlen
    split at h
    · rename_i a t
      rw [Bool.and_eq_true, sv_nx_eq] at h
      obtain ⟨c1, ct, rfl, hP1, s2c⟩ := sv_cons s2
      exact cm_X_do (q := (Nat.add pc 1, clv, c1 :: c1 :: ct, w)) hd (cm_ifk (sv_cat_ok h.1 hP1) rfl) (hk _ _ _ _ h.2 _ _ _ ⟨s1, ⟨hP1, hP1, s2c⟩, s3, s4, s5, s6⟩)
    · cases h
  case dup2 =>
    replace h := Bool.and_eq_true_iff.mp (show (_ && _) = true from h)
    have hlen := ia_beq h.1
    replace h := h.2
    subst hlen
    split at h
    · rename_i a b t
      simp only [Bool.and_eq_true, sv_nx_eq] at h
      obtain ⟨c1, ct1, rfl, hP1, s2b⟩ := sv_cons s2
      obtain ⟨c2, ct, rfl, hP2, s2c⟩ := sv_cons s2b
      exact cm_X_do (q := (Nat.add pc 1, clv, c1 :: c2 :: c1 :: c2 :: ct, w)) hd (cm_ifk (by rw [sv_cat_ok h.1.1 hP1, sv_cat_ok h.1.2 hP2]; rfl) rfl) (hk _ _ _ _ h.2 _ _ _ ⟨s1, ⟨hP1, hP2, hP1, hP2, s2c⟩, s3, s4, s5, s6⟩)
    · cases h
  case pop =>
    replace h := Bool.and_eq_true_iff.mp (show (_ && _) = true from h)
    have hlen := ia_beq h.1
    replace h := h.2
    subst hlen
    split at h
    · rename_i a t
      rw [Bool.and_eq_true, sv_nx_eq] at h
      obtain ⟨c1, ct, rfl, hP1, s2c⟩ := sv_cons s2
      exact cm_X_do (q := (Nat.add pc 1, clv, ct, w)) hd (cm_ifk (sv_cat_ok h.1 hP1) rfl) (hk _ _ _ _ h.2 _ _ _ ⟨s1, s2c, s3, s4, s5, s6⟩)
    · cases h
  case ifCond c o =>
    replace h := Bool.and_eq_true_iff.mp (show (_ && _) = true from h)
    have hlen := ia_beq h.1
    replace h := h.2
    subst hlen
    split at h
    · rename_i a t
      obtain ⟨c1, ct, rfl, hP1, s2c⟩ := sv_cons s2
      obtain ⟨x, rfl, x1, x2⟩ := sv_vr_int hP1
      exact sv_br_ok (z := 0) hk hd (cst' := ct) rfl h ⟨x1, x2⟩ (sv_vr_new (by have := sv_self 0; rw [ia_E0] at this; exact this)) ⟨s1, s2c, s3, s4, s5, s6⟩
    · cases h
  case if_icmp c o =>
    replace h := Bool.and_eq_true_iff.mp (show (_ && _) = true from h)
    have hlen := ia_beq h.1
    replace h := h.2
    subst hlen
    split at h
    · rename_i b a t
      obtain ⟨c1, ct1, rfl, hP1, s2b⟩ := sv_cons s2
      obtain ⟨c2, ct, rfl, hP2, s2c⟩ := sv_cons s2b
      obtain ⟨z, rfl, z1, z2⟩ := sv_vr_int hP1
      obtain ⟨x, rfl, x1, x2⟩ := sv_vr_int hP2
      exact sv_br_ok hk hd (cst' := ct) rfl h ⟨x1, x2⟩ ⟨z1, z2⟩ ⟨s1, s2c, s3, s4, s5, s6⟩
    · cases h
  case goto o =>
    replace h := Bool.and_eq_true_iff.mp (show (_ && _) = true from h)
    have hlen := ia_beq h.1
    replace h := h.2
    subst hlen
    exact sv_jmp_ok hk hd rfl h hS
  case tableswitch df lo hi os => exact sv_tsw_ok hk hd rfl h hS
  case lookupswitch df ps => exact sv_lks_ok hk hd rfl h hS
  case getfield i =>
    replace h := Bool.and_eq_true_iff.mp (show (_ && _) = true from h)
    have hlen := ia_beq h.1
    replace h := h.2
    subst hlen
    split at h
    · rename_i n t
      obtain ⟨c1, ct, rfl, hP1, s2c⟩ := sv_cons s2
      have e1 := sv_vr_ref hP1
      subst e1
      split at h
      · rename_i ci sl z1 z2 hpl
        split at h
        · rename_i c hc
          simp only [Bool.and_eq_true] at h
          obtain ⟨⟨g1, g2, g3⟩, h⟩ := h
          rw [ia_frc_eq] at h
          refine sv_get_ok (n := n) (i := sl) (z := cm_code c sl) hk hd (cst' := ct) ?_ h (ia_blt g3) ⟨s1, s2c, s3, s4, s5, s6⟩
          show (match ia_pl (ia_cls y) i with
            | some (0, ci, sl, _, _) => (match cm_sh n with
              | some c => ia_if (Nat.beq c.1 ci && Nat.blt sl c.2.1) (cm_nx (Nat.add pc 3) clv (cm_v w n sl (cm_code c sl) :: ct) w)
              | none => none)
            | _ => none) = _
          rw [hpl]
          show (match cm_sh n with
              | some c => ia_if (Nat.beq c.1 ci && Nat.blt sl c.2.1) (cm_nx (Nat.add pc 3) clv (cm_v w n sl (cm_code c sl) :: ct) w)
              | none => none) = _
          rw [hc]
          exact cm_ifk (by rw [g1, g2]; rfl) rfl
        · cases h
      · cases h
    · cases h
  case putfield i =>
    replace h := Bool.and_eq_true_iff.mp (show (_ && _) = true from h)
    have hlen := ia_beq h.1
    replace h := h.2
    subst hlen
    split at h
    · rename_i v n t
      obtain ⟨c0, ct0, rfl, hP0, s2b⟩ := sv_cons s2
      obtain ⟨c1, ct, rfl, hP1, s2c⟩ := sv_cons s2b
      obtain ⟨x, rfl, x1, x2⟩ := sv_vr_int hP0
      have e1 := sv_vr_ref hP1
      subst e1
      split at h
      · rename_i ci sl kd z2 hpl
        split at h
        · rename_i c hc
          simp only [Bool.and_eq_true] at h
          obtain ⟨⟨⟨g1, g2, g3⟩, g4, g5⟩, h⟩ := h
          refine sv_put_ok (n := n) (i' := sl) (x := x) hk hd (cst' := ct) ?_ h x1 (Nat.le_refl _) (Nat.le_refl _) (ia_blt g3) ⟨s1, s2c, s3, s4, s5, s6⟩
          show (match ia_pl (ia_cls y) i with
            | some (0, ci, sl, kd, _) => (match cm_sh n with
              | some c => ia_if (Nat.beq c.1 ci && (ia_fit y ci kd (cm_e (.inl x)) && Nat.blt sl c.2.1)) (match cm_put w n sl (cm_code c sl) (.inl x) with
                | some w' => cm_nx (Nat.add pc 3) clv ct w'
                | none => none)
              | none => none)
            | _ => none) = _
          rw [hpl]
          show (match cm_sh n with
              | some c => ia_if (Nat.beq c.1 ci && (ia_fit y ci kd (cm_e (.inl x)) && Nat.blt sl c.2.1)) (match cm_put w n sl (cm_code c sl) (.inl x) with
                | some w' => cm_nx (Nat.add pc 3) clv ct w'
                | none => none)
              | none => none) = _
          rw [hc]
          have fit : ia_fit y ci kd (cm_e (.inl x)) = true := by
            rw [Bool.or_eq_true] at g5
            rcases g5 with g5 | g5
            · have := ia_beq g5
              subst this
              rfl
            · simp only [Bool.and_eq_true] at g5
              obtain ⟨g6, g7, g8⟩ := g5
              have := ia_beq g6
              subst this
              have l1 := ia_ble g7
              have l2 := ia_ble g8
              obtain ⟨⟨y1, y2⟩, -⟩ := x1
              have y1' : v.1 ≤ ia_E x := y1
              have y2' : ia_E x ≤ v.2.1 := y2
              show (Nat.beq (ia_E x) (ia_E x) && (Nat.beq (ia_E x) 2147483648 || Nat.beq (ia_E x) 2147483649)) = true
              have : ia_E x = 2147483648 ∨ ia_E x = 2147483649 := by omega
              rcases this with q | q
              · rw [q]; rfl
              · rw [q]; rfl
          refine cm_ifk (by rw [g1, g2, fit]; rfl) ?_
          rw [ia_beq g4]
          rfl
        · cases h
      · cases h
    · rename_i n t
      obtain ⟨c0, ct0, rfl, hP0, s2b⟩ := sv_cons s2
      obtain ⟨c1, ct, rfl, hP1, s2c⟩ := sv_cons s2b
      obtain ⟨x, rfl⟩ := sv_vr_long hP0
      have e1 := sv_vr_ref hP1
      subst e1
      split at h
      · rename_i ci sl kd z2 hpl
        split at h
        · rename_i c hc
          simp only [Bool.and_eq_true, sv_nx_eq] at h
          obtain ⟨⟨⟨g1, g2⟩, g4, g5⟩, g6, h⟩ := h
          refine cm_X_do (q := (Nat.add pc 3, clv, ct, cm_u2 w n sl x)) hd ?_ (hk _ _ _ _ h _ _ _ ⟨s1, s2c, s3, s4, sv_fr_u2 s5 (sv_wr_ok g6 (Nat.le_refl _) (Nat.le_refl _)), s6⟩)
          have hkd := ia_beq g5
          show (match ia_pl (ia_cls y) i with
            | some (0, ci, sl, kd, _) => (match cm_sh n with
              | some c => ia_if (Nat.beq c.1 ci && (ia_fit y ci kd (cm_e (.inr (.inl x))) && Nat.blt sl c.2.1)) (match cm_put w n sl (cm_code c sl) (.inr (.inl x)) with
                | some w' => cm_nx (Nat.add pc 3) clv ct w'
                | none => none)
              | none => none)
            | _ => none) = _
          rw [hpl]
          show (match cm_sh n with
              | some c => ia_if (Nat.beq c.1 ci && (ia_fit y ci kd (cm_e (.inr (.inl x))) && Nat.blt sl c.2.1)) (match cm_put w n sl (cm_code c sl) (.inr (.inl x)) with
                | some w' => cm_nx (Nat.add pc 3) clv ct w'
                | none => none)
              | none => none) = _
          rw [hc]
          refine cm_ifk (by rw [g1, g2, show ia_fit y ci kd (cm_e (.inr (.inl x))) = true from by rw [hkd]; rfl]; rfl) ?_
          rw [ia_beq g4]
          rfl
        · cases h
      · cases h
    · cases h
  case iaload =>
    replace h := Bool.and_eq_true_iff.mp (show (_ && _) = true from h)
    have hlen := ia_beq h.1
    replace h := h.2
    subst hlen
    exact sv_al_ok (by decide) hk hd rfl h hS
  case laload =>
    replace h := Bool.and_eq_true_iff.mp (show (_ && _) = true from h)
    have hlen := ia_beq h.1
    replace h := h.2
    subst hlen
    exact sv_ald_ok hk hd rfl h hS
  case baload =>
    replace h := Bool.and_eq_true_iff.mp (show (_ && _) = true from h)
    have hlen := ia_beq h.1
    replace h := h.2
    subst hlen
    have e1 : ∀ b, Nat.beq (cm_kn cst 1) 52 = b → cm_do y pc .baload 1 clv cst w = (match b with
      | true => cm_al 52 pc clv cst w
      | false => cm_al 53 pc clv cst w) := fun b hb => by rw [← hb]; rfl
    rcases sv_cnd h with ⟨hz, h⟩ | ⟨hz, h⟩
    · exact sv_al_ok (by decide) hk hd (e1 true (sv_kn_ok s2 (by decide) hz)) h hS
    · refine sv_al_ok (by decide) hk hd (e1 false ?_) h hS
      unfold sv_al at h
      split at h
      · rename_i a n t
        obtain ⟨c1, ct1, rfl, hP1, s2b⟩ := sv_cons s2
        obtain ⟨c2, ct, rfl, hP2, s2c⟩ := sv_cons s2b
        obtain ⟨x, rfl, x1, -⟩ := sv_vr_int hP1
        have e2 := sv_vr_ref hP2
        subst e2
        obtain ⟨c, hc, h1, -⟩ := sv_ix_ok h x1.1
        rw [sv_kn_no rfl hc h1]
        rfl
      · cases h
  case aaload =>
    replace h := Bool.and_eq_true_iff.mp (show (_ && _) = true from h)
    have hlen := ia_beq h.1
    replace h := h.2
    subst hlen
    have e1 : ∀ b, Nat.beq (cm_kn cst 1) 54 = b → cm_do y pc .aaload 1 clv cst w = (match b with
      | true => cm_al 54 pc clv cst w
      | false => cm_al 55 pc clv cst w) := fun b hb => by rw [← hb]; rfl
    rcases sv_cnd h with ⟨hz, h⟩ | ⟨hz, h⟩
    · exact sv_ala_ok hk hd (e1 true (sv_kn_ok s2 (by decide) hz)) h hS
    · refine sv_ala_ok hk hd (e1 false ?_) h hS
      unfold sv_ala at h
      split at h
      · rename_i a n t
        obtain ⟨c1, ct1, rfl, hP1, s2b⟩ := sv_cons s2
        obtain ⟨c2, ct, rfl, hP2, s2c⟩ := sv_cons s2b
        obtain ⟨x, rfl, x1, -⟩ := sv_vr_int hP1
        have e2 := sv_vr_ref hP2
        subst e2
        obtain ⟨c, hc, h1, -⟩ := sv_ix_ok h x1.1
        rw [sv_kn_no rfl hc h1]
        rfl
      · cases h
  case iastore =>
    replace h := Bool.and_eq_true_iff.mp (show (_ && _) = true from h)
    have hlen := ia_beq h.1
    replace h := h.2
    subst hlen
    exact sv_as_ok (g := fun x => x) (by decide) (fun a x hx => hx) hk hd rfl h hS
  case lastore =>
    replace h := Bool.and_eq_true_iff.mp (show (_ && _) = true from h)
    have hlen := ia_beq h.1
    replace h := h.2
    subst hlen
    exact sv_asl_ok hk hd rfl h hS
  case bastore =>
    replace h := Bool.and_eq_true_iff.mp (show (_ && _) = true from h)
    have hlen := ia_beq h.1
    replace h := h.2
    subst hlen
    have e1 : ∀ b, Nat.beq (cm_kn cst 2) 52 = b → cm_do y pc .bastore 1 clv cst w = (match b with
      | true => cm_as 52 (vp_nar .byte) pc clv cst w
      | false => cm_as 53 (vp_nar .boolean) pc clv cst w) := fun b hb => by rw [← hb]; rfl
    rcases sv_cnd h with ⟨hz, h⟩ | ⟨hz, h⟩
    · exact sv_as_ok (by decide) (fun a x hx => ⟨sv_in_top _, Or.inl rfl, Or.inl rfl⟩) hk hd (e1 true (sv_kn_ok s2 (by decide) hz)) h hS
    · refine sv_as_ok (by decide) (fun a x hx => ⟨sv_bool x, Or.inl rfl, Or.inl rfl⟩) hk hd (e1 false ?_) h hS
      unfold sv_as at h
      split at h
      · rename_i v a n t
        obtain ⟨c0, ct0, rfl, hP0, s2a⟩ := sv_cons s2
        obtain ⟨c1, ct1, rfl, hP1, s2b⟩ := sv_cons s2a
        obtain ⟨c2, ct, rfl, hP2, s2c⟩ := sv_cons s2b
        obtain ⟨x, rfl, x1, -⟩ := sv_vr_int hP1
        have e2 := sv_vr_ref hP2
        subst e2
        obtain ⟨c, hc, h1, -⟩ := sv_ix_ok h x1.1
        rw [sv_kn_no rfl hc h1]
        rfl
      · cases h
  case arraylength =>
    replace h := Bool.and_eq_true_iff.mp (show (_ && _) = true from h)
    have hlen := ia_beq h.1
    replace h := h.2
    subst hlen
    split at h
    · rename_i n t
      obtain ⟨c1, ct, rfl, hP1, s2c⟩ := sv_cons s2
      have e1 := sv_vr_ref hP1
      subst e1
      split at h
      · rename_i c hc
        rw [Bool.and_eq_true] at h
        have hz := h.1
        simp only [Bool.and_eq_true] at hz
        refine sv_pu_ok (x := Int32.ofNat c.2.1) hk hd s2c ?_ (ia_Elen (ia_blt hz.2.2)) h.2 s1 s3 s4 s5 s6
        show (match cm_sh n with
          | some c => ia_if (Nat.ble 50 c.1 && (Nat.ble c.1 55 && Nat.blt c.2.1 2147483648)) (cm_nx (Nat.add pc 1) clv (.inl (Int32.ofNat c.2.1) :: ct) w)
          | none => none) = _
        rw [hc]
        exact cm_ifk h.1 rfl
      · cases h
    · cases h
  case ldc i =>
    replace h := Bool.and_eq_true_iff.mp (show (_ && _) = true from h)
    have hlen := ia_beq h.1
    replace h := h.2
    subst hlen
    split at h
    · rename_i v z1 z2 z3 hpl
      refine sv_pu_ok (x := ia_D v) hk hd s2 ?_ (ia_ok8 (ia_pl_ok hpl)).2 h s1 s3 s4 s5 s6
      show (match ia_pl (ia_cls y) i with
        | some (8, v, _, _, _) => cm_nx (Nat.add pc 2) clv (.inl (ia_D v) :: cst) w
        | _ => none) = _
      rw [hpl]
      rfl
    · cases h
  case ldc_w i =>
    replace h := Bool.and_eq_true_iff.mp (show (_ && _) = true from h)
    have hlen := ia_beq h.1
    replace h := h.2
    subst hlen
    split at h
    · rename_i v z1 z2 z3 hpl
      refine sv_pu_ok (x := ia_D v) hk hd s2 ?_ (ia_ok8 (ia_pl_ok hpl)).2 h s1 s3 s4 s5 s6
      show (match ia_pl (ia_cls y) i with
        | some (8, v, _, _, _) => cm_nx (Nat.add pc 3) clv (.inl (ia_D v) :: cst) w
        | _ => none) = _
      rw [hpl]
      rfl
    · cases h
  case ldc2_w i =>
    replace h := Bool.and_eq_true_iff.mp (show (_ && _) = true from h)
    have hlen := ia_beq h.1
    replace h := h.2
    subst hlen
    split at h
    · rename_i v z1 z2 z3 hpl
      rw [Bool.and_eq_true, sv_nx_eq] at h
      refine cm_X_do (q := (Nat.add pc 3, clv, .inr (.inl (Int64.ofNat v)) :: cst, w)) hd ?_ (hk _ _ _ _ h.2 _ _ _ ⟨s1, ⟨True.intro, s2⟩, s3, s4, s5, s6⟩)
      show (match ia_pl (ia_cls y) i with
        | some (9, v, _, _, _) => ia_if (Nat.blt v 18446744073709551616) (cm_nx (Nat.add pc 3) clv (.inr (.inl (Int64.ofNat v)) :: cst) w)
        | _ => none) = _
      rw [hpl]
      exact cm_ifk h.1 rfl
    · cases h
  case invokevirtual i =>
    replace h := Bool.and_eq_true_iff.mp (show (_ && _) = true from h)
    have hlen := ia_beq h.1
    replace h := h.2
    subst hlen
    rw [hdep] at h
    exact sv_cal_ok hV hk hd (kd := 0) rfl h hS
  case invokestatic i =>
    replace h := Bool.and_eq_true_iff.mp (show (_ && _) = true from h)
    have hlen := ia_beq h.1
    replace h := h.2
    subst hlen
    rw [hdep] at h
    exact sv_inv_ok hV hk hd h hS
  case ireturn =>
    replace h := Bool.and_eq_true_iff.mp (show (_ && _) = true from h)
    have hlen := ia_beq h.1
    replace h := h.2
    subst hlen
    split at h
    · rename_i a
      split at h
      · rename_i ty hty
        rw [Bool.and_eq_true] at h
        obtain ⟨c1, ct, rfl, hP1, s2c⟩ := sv_cons s2
        obtain ⟨x, rfl, x1, -⟩ := sv_vr_int hP1
        have := sv_nil s2c
        subst this
        refine sv_ret_ok (s := s) (r := some (.inl a)) (cr := some (.inl x)) hpre hQ hd ?_ x1.1 h.2 hS
        show (match ia_ret y with
          | some ty => ia_if (ia_nar ty (ia_E x)) (some (some (Sum.inl x : cm_V)))
          | none => none) = _
        rw [hty]
        exact cm_ifk (sv_ofit_ok h.1 x1.1) rfl
      · cases h
    · cases h
  case lreturn =>
    replace h := Bool.and_eq_true_iff.mp (show (_ && _) = true from h)
    have hlen := ia_beq h.1
    replace h := h.2
    subst hlen
    split at h
    · split at h
      · rename_i hty
        obtain ⟨c1, ct, rfl, hP1, s2c⟩ := sv_cons s2
        obtain ⟨x, rfl⟩ := sv_vr_long hP1
        have := sv_nil s2c
        subst this
        refine sv_ret_ok (s := s) (r := some (.inr none)) (cr := some (.inr (.inl x))) hpre hQ hd ?_ True.intro h hS
        show (match ia_ret y with
          | some .long => some (some (Sum.inr (Sum.inl x) : cm_V))
          | _ => none) = _
        rw [hty]
      · cases h
    · cases h
  case return_ =>
    replace h := Bool.and_eq_true_iff.mp (show (_ && _) = true from h)
    have hlen := ia_beq h.1
    replace h := h.2
    subst hlen
    split at h
    · split at h
      · rename_i hty
        have := sv_nil s2
        subst this
        refine sv_ret_ok (s := s) (r := none) (cr := none) hpre hQ hd ?_ True.intro h hS
        show (match ia_ret y with
          | none => some none
          | some _ => none) = _
        rw [hty]
      · cases h
    · cases h
end SVZ

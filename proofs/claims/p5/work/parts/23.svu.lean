/-! ## the checker is right: what instructions share -/
def sv_kok (C : Nat → List cm_V → cm_W → cm_O → Prop) (y : Nat) (Q : cm_O → Prop) (G : sv_GT) (W : sv_WR) (na Re Rh : Nat) (lv0 : cm_L) (w0 : cm_W) (k : sv_K) : Prop := ∀ pc lv st fs, k pc lv st fs = true → ∀ clv cst w, sv_St G W na Re Rh lv0 w0 lv st fs clv cst w → cm_X C y pc clv cst w Q
section SVU
variable {C : Nat → List cm_V → cm_W → cm_O → Prop} {y : Nat} {Q : cm_O → Prop} {G : sv_GT} {W : sv_WR} {na Re Rh : Nat} {lv0 : cm_L} {w0 : cm_W} {k : sv_K}
variable {pc : Nat} {lv : sv_L} {st : List sv_V} {fs : sv_F} {clv : cm_L} {cst : List cm_V} {w : cm_W} {ins : Instr} {len : Nat}
theorem sv_kd_ok {O : Nat → Int32 → Prop} {kd : Nat} {v : sv_V} {c : cm_V} (h : sv_kd kd v = true) (hc : sv_vr Re Rh O v c) : ia_kd kd (cm_e c) = true := by
  match v, c, hc with
  | .inl a, .inl x, _ => exact h
  | .inr none, .inr (.inl _), _ => exact h
  | .inr (some k), .inr (.inr (some j)), _ => exact h
theorem sv_cat_ok {O : Nat → Int32 → Prop} {v : sv_V} {c : cm_V} (h : (!(sv_kd 1 v)) = true) (hc : sv_vr Re Rh O v c) : Nat.beq (ia_cat (cm_e c)) 1 = true := by
  match v, c, hc with
  | .inl a, .inl x, _ => rfl
  | .inr none, .inr (.inl _), _ => exact absurd h (by decide)
  | .inr (some k), .inr (.inr (some j)), _ => rfl
theorem sv_nl_ok {P : sv_V → cm_V → Prop} (hP : ∀ v c, P v (.inr (.inl c)) → v = .inr none) (hl : sv_all2 (sv_ov P) lv clv) : ∀ {i : Nat}, sv_nl lv i = true → ia_nl (cm_el clv) i = true
  | 0, _ => rfl
  | i + 1, h => by
    have h' : (match ia_at lv i with
      | some (some (.inr none)) => false
      | _ => true) = true := h
    show (match ia_at (cm_el clv) i with
      | some (some (.inr (.inl _))) => false
      | _ => true) = true
    cases hc : ia_at clv i with
    | none =>
      have : ia_at (cm_el clv) i = none := by
        rw [ia_at_eq] at hc ⊢
        unfold cm_el
        rw [List.getElem?_map, hc]
        rfl
      rw [this]
    | some b =>
      rw [cm_el_at clv i hc]
      obtain ⟨a, ha, hab⟩ := sv_a2_at' hl hc
      rw [ha] at h'
      match a, b, hab with
      | some v, some (.inr (.inl c)), hab =>
        have := hP v c hab
        subst this
        cases h'
      | some v, some (.inl c), hab => rfl
      | some v, some (.inr (.inr none)), hab => rfl
      | some v, some (.inr (.inr (some _))), hab => rfl
      | none, some (.inl c), hab => rfl
      | none, some (.inr (.inr none)), hab => rfl
      | none, some (.inr (.inr (some _))), hab => rfl
      | none, none, hab => rfl
theorem sv_vr_l {O : Nat → Int32 → Prop} (v : sv_V) (c : Int64) (h : sv_vr Re Rh O v (.inr (.inl c))) : v = .inr none := by
  match v, h with
  | .inr none, _ => rfl
theorem sv_pa_set {i : Nat} {v : Option cm_V} (h : sv_pa na lv0 clv) (hi : na ≤ i) : sv_pa na lv0 (clv.set i v) := by
  intro j hj
  rw [← h j hj, ia_at_eq, ia_at_eq, List.getElem?_set_ne (by omega)]
theorem sv_ld_ok {kd i ln : Nat} (hk : sv_kok C y Q G W na Re Rh lv0 w0 k) (hd : decode (ia_code y) pc = .ok (ins, len)) (hdo : cm_do y pc ins len clv cst w = cm_ld kd i ln pc clv cst w) (h : sv_ld kd i ln k pc lv st fs = true) (hS : sv_St G W na Re Rh lv0 w0 lv st fs clv cst w) : cm_X C y pc clv cst w Q := by
  obtain ⟨s1, s2, s3, s4, s5, s6⟩ := hS
  unfold sv_ld at h
  split at h
  · rename_i v hv
    rw [Bool.and_eq_true, sv_nx_eq] at h
    obtain ⟨b, hb, hP⟩ := sv_a2_at s1 hv
    match b, hP with
    | some c, hP =>
      have hP' : sv_vr Re Rh (sv_os w) v c := hP
      refine cm_X_do (q := (Nat.add pc ln, clv, c :: cst, w)) hd ?_ (hk _ _ _ _ h.2 _ _ _ ⟨s1, ⟨?_, s2⟩, s3, s4, s5, s6⟩)
      · rw [hdo]
        unfold cm_ld
        rw [hb]
        exact cm_ifk (sv_kd_ok h.1 hP') rfl
      · match v, c, hP' with
        | .inl (lo, hi, de, dh, og), .inl x, hP' => exact ⟨hP'.1, Or.inr (Or.inr ⟨i, rfl, hb⟩)⟩
        | .inr none, .inr (.inl _), _ => trivial
        | .inr (some k), .inr (.inr (some j)), hP' => exact hP'
  · cases h
theorem sv_sto_ok {kd i ln : Nat} (hk : sv_kok C y Q G W na Re Rh lv0 w0 k) (hd : decode (ia_code y) pc = .ok (ins, len)) (hdo : cm_do y pc ins len clv cst w = cm_sto kd i ln pc clv cst w) (h : sv_sto na kd i ln k pc lv st fs = true) (hS : sv_St G W na Re Rh lv0 w0 lv st fs clv cst w) : cm_X C y pc clv cst w Q := by
  obtain ⟨s1, s2, s3, s4, s5, s6⟩ := hS
  unfold sv_sto at h
  split at h
  · rename_i v t
    simp only [Bool.and_eq_true] at h
    obtain ⟨⟨h1, h2, h3⟩, h⟩ := h
    obtain ⟨c, ct, rfl, hP, s2c⟩ := sv_cons s2
    obtain ⟨v', hv', h⟩ := sv_ev_ok (Re := Re) (Rh := Rh) (w := w) (clv := clv) h
    obtain ⟨t', ht', h⟩ := sv_cs_ok (Re := Re) (Rh := Rh) h
    rw [ia_setK_eq, sv_nx_eq] at h
    refine cm_X_do (q := (Nat.add pc ln, clv.set i (some c), ct, w)) hd ?_ (hk _ _ _ _ h _ _ _ ⟨sv_a2_set i s1 (hv' c hP), ht' _ _ _ s2c, s3, s4, s5, sv_pa_set s6 (ia_ble h3)⟩)
    rw [hdo]
    exact cm_ifk (by rw [sv_kd_ok h1 hP, sv_nl_ok sv_vr_l s1 h2]; rfl) rfl
  · cases h
theorem sv_stl_ok {i ln : Nat} (hk : sv_kok C y Q G W na Re Rh lv0 w0 k) (hd : decode (ia_code y) pc = .ok (ins, len)) (hdo : cm_do y pc ins len clv cst w = cm_stl i ln pc clv cst w) (h : sv_stl na i ln k pc lv st fs = true) (hS : sv_St G W na Re Rh lv0 w0 lv st fs clv cst w) : cm_X C y pc clv cst w Q := by
  obtain ⟨s1, s2, s3, s4, s5, s6⟩ := hS
  unfold sv_stl at h
  split at h
  · rename_i t
    simp only [Bool.and_eq_true] at h
    obtain ⟨⟨h2, h3⟩, h⟩ := h
    obtain ⟨c, ct, rfl, hP, s2c⟩ := sv_cons s2
    obtain ⟨x, rfl⟩ := sv_vr_long hP
    obtain ⟨t', ht', h⟩ := sv_cs_ok (Re := Re) (Rh := Rh) h
    rw [ia_setK_eq, ia_setK_eq, sv_nx_eq] at h
    refine cm_X_do (q := (Nat.add pc ln, (clv.set i (some (.inr (.inl x)))).set (Nat.succ i) none, ct, w)) hd ?_ (hk _ _ _ _ h _ _ _ ⟨sv_a2_set (P := sv_ov (sv_vr Re Rh (sv_os w))) (Nat.succ i) (a := none) (b := none) (sv_a2_set (P := sv_ov (sv_vr Re Rh (sv_os w))) i (a := some (.inr none)) (b := some (.inr (.inl x))) s1 (show sv_vr Re Rh (sv_os w) (.inr none) (.inr (.inl x)) from True.intro)) True.intro, ht' _ _ _ s2c, s3, s4, s5, sv_pa_set (sv_pa_set s6 (ia_ble h3)) (Nat.le_succ_of_le (ia_ble h3))⟩)
    rw [hdo]
    exact cm_ifk (sv_nl_ok sv_vr_l s1 h2) rfl
  · cases h
/-- an int on the stack -/
theorem sv_vr_new {O : Nat → Int32 → Prop} {lo hi : Nat} {x : Int32} (h : sv_in (lo, hi) x) : sv_vr Re Rh O (.inl (lo, hi, 0, 0, 0)) (.inl x) := ⟨⟨h, Or.inl rfl, Or.inl rfl⟩, Or.inl rfl⟩
theorem sv_pu_ok {c pc' : Nat} {x : Int32} (hk : sv_kok C y Q G W na Re Rh lv0 w0 k) (hd : decode (ia_code y) pc = .ok (ins, len)) {cst' : List cm_V} (hs : sv_all2 (sv_vr Re Rh (fun og x => sv_os w og x ∨ sv_ol clv og x)) st cst') (hdo : cm_do y pc ins len clv cst w = some (pc', clv, .inl x :: cst', w)) (hc : ia_E x = c) (h : sv_pu k c pc' lv st fs = true) (s1 : sv_all2 (sv_ov (sv_vr Re Rh (sv_os w))) lv clv) (s3 : sv_fs Re Rh fs w) (s4 : sv_w G w) (s5 : sv_fr W w0 w) (s6 : sv_pa na lv0 clv) : cm_X C y pc clv cst w Q := by
  unfold sv_pu at h
  rw [ia_frc_eq, sv_nx_eq] at h
  exact cm_X_do (q := (pc', clv, .inl x :: cst', w)) hd hdo (hk _ _ _ _ h _ _ _ ⟨s1, ⟨sv_vr_new ⟨by show c ≤ _; rw [hc]; exact Nat.le_refl _, by show _ ≤ c; rw [hc]; exact Nat.le_refl _⟩, hs⟩, s3, s4, s5, s6⟩)
theorem sv_bin_ok {f : sv_P → sv_P → sv_P} {op : Int32 → Int32 → Int32} {pd : Nat} (hf : sv_ok f op) (P : Int32 → Prop) (hP : ∀ (a b : sv_I) (t : List sv_V) (x : Int32), st = .inl b :: .inl a :: t → sv_in (b.1, b.2.1) x → P x) (hk : sv_kok C y Q G W na Re Rh lv0 w0 k) (hd : decode (ia_code y) pc = .ok (ins, len)) (hdo : ∀ (x z : Int32) (t : List cm_V), cst = .inl z :: .inl x :: t → P z → cm_do y pc ins len clv cst w = some (Nat.add pd 1, clv, .inl (op x z) :: t, w)) (h : sv_bin f k pd lv st fs = true) (hS : sv_St G W na Re Rh lv0 w0 lv st fs clv cst w) : cm_X C y pc clv cst w Q := by
  obtain ⟨s1, s2, s3, s4, s5, s6⟩ := hS
  unfold sv_bin at h
  split at h
  · rename_i b a t
    rw [ia_frc_eq, ia_frc_eq, sv_nx_eq] at h
    obtain ⟨c1, ct1, rfl, hP1, s2b⟩ := sv_cons s2
    obtain ⟨c2, ct, rfl, hP2, s2c⟩ := sv_cons s2b
    obtain ⟨z, rfl, z1, -⟩ := sv_vr_int hP1
    obtain ⟨x, rfl, x1, -⟩ := sv_vr_int hP2
    exact cm_X_do hd (hdo x z ct rfl (hP a b t z rfl z1.1)) (hk _ _ _ _ h _ _ _ ⟨s1, ⟨sv_vr_new (hf _ _ _ _ x1.1 z1.1), s2c⟩, s3, s4, s5, s6⟩)
  · cases h
theorem sv_rl {R d c u v : Nat} (hd0 : d = 0 ∨ R + d ≤ u + 1) (hc : 2147483648 ≤ c) (hv : u + c ≤ v + 2147483648) : sv_dd d c = 0 ∨ R + sv_dd d c ≤ v + 1 := by
  unfold sv_dd
  cases hd : Nat.beq d 0 with
  | true => exact Or.inl rfl
  | false =>
    right
    rw [cond_false]
    have e : Nat.sub (Nat.add d c) 2147483648 = d + c - 2147483648 := rfl
    rw [e]
    rcases hd0 with h | h
    · rw [h] at hd; cases hd
    · omega
theorem sv_sum_ok {a b : sv_I} {x z : Int32} (hx : sv_i Re Rh a x) (hz : sv_in (b.1, b.2.1) z) : sv_i Re Rh (sv_sum a b) (x + z) ∧ (sv_sum a b).2.2.2.2 = 0 := by
  unfold sv_sum
  cases hc : (Nat.ble 2147483648 b.1 && Nat.blt (Nat.add a.2.1 b.2.1) 6442450944) with
  | false =>
    rw [cond_false]
    exact ⟨⟨sv_add_ok _ _ _ _ hx.1 hz, Or.inl rfl, Or.inl rfl⟩, rfl⟩
  | true =>
    rw [cond_true]
    rw [Bool.and_eq_true] at hc
    have h1 : 2147483648 ≤ b.1 := ia_ble hc.1
    have h2 : a.2.1 + b.2.1 < 6442450944 := ia_blt hc.2
    have h3 : ia_E (x + z) = (ia_E x + ia_E z + 2147483648) % 4294967296 := ia_Eadd x z
    obtain ⟨⟨x1, x2⟩, x3, x4⟩ := hx
    obtain ⟨z1, z2⟩ := hz
    have x1' : a.1 ≤ ia_E x := x1
    have x2' : ia_E x ≤ a.2.1 := x2
    have z1' : b.1 ≤ ia_E z := z1
    have z2' : ia_E z ≤ b.2.1 := z2
    have e : ia_E (x + z) = ia_E x + ia_E z - 2147483648 := by omega
    have e1 : Nat.sub (Nat.add a.1 b.1) 2147483648 = a.1 + b.1 - 2147483648 := rfl
    have e2 : Nat.sub (Nat.add a.2.1 b.2.1) 2147483648 = a.2.1 + b.2.1 - 2147483648 := rfl
    rw [e1, e2]
    refine ⟨⟨⟨?_, ?_⟩, sv_rl x3 h1 (by rw [e]; omega), sv_rl x4 h1 (by rw [e]; omega)⟩, rfl⟩
    · have : a.1 + b.1 - 2147483648 ≤ ia_E (x + z) := by omega
      exact this
    · have : ia_E (x + z) ≤ a.2.1 + b.2.1 - 2147483648 := by omega
      exact this
theorem sv_jmp_ok {o : Int} (hk : sv_kok C y Q G W na Re Rh lv0 w0 k) (hd : decode (ia_code y) pc = .ok (ins, len)) {cst' : List cm_V} (hdo : cm_do y pc ins len clv cst w = cm_jmp o pc clv cst' w) (h : sv_jmp o k pc lv st fs = true) (hS : sv_St G W na Re Rh lv0 w0 lv st fs clv cst' w) : cm_X C y pc clv cst w Q := by
  unfold sv_jmp at h
  unfold cm_jmp at hdo
  split at h
  · rename_i t ht
    rw [ht] at hdo
    rw [sv_nx_eq] at h
    exact cm_X_do (q := (t, clv, cst', w)) hd hdo (hk _ _ _ _ h _ _ _ hS)
  · cases h
theorem sv_b1_ok {c : ClassFile.Cond} {a b : sv_I} {x z : Int32} {r : Bool} {pt : Nat} (hk : sv_kok C y Q G W na Re Rh lv0 w0 k) (h : sv_b1 c r a b pt k lv st fs = true) (hr : r = cm_cmp c x z) (hx : sv_vr Re Rh (fun og x => sv_os w og x ∨ sv_ol clv og x) (.inl a) (.inl x)) (hz : sv_vr Re Rh (fun og x => sv_os w og x ∨ sv_ol clv og x) (.inl b) (.inl z)) (hS : sv_St G W na Re Rh lv0 w0 lv st fs clv cst w) : cm_X C y pt clv cst w Q := by
  obtain ⟨s1, s2, s3, s4, s5, s6⟩ := hS
  obtain ⟨q, e, q1, q2⟩ := sv_ref_ok (c := c) hx.1.1 hz.1.1
  unfold sv_b1 at h
  rw [hr, e] at h
  obtain ⟨lv1, fs1, t1, t3, h⟩ := sv_rf_ok h hx.2 q1 s1 s3
  obtain ⟨lv2, fs2, u1, u3, h⟩ := sv_rf_ok h hz.2 q2 t1 t3
  rw [sv_nx_eq] at h
  exact hk _ _ _ _ h _ _ _ ⟨u1, s2, u3, s4, s5, s6⟩
theorem sv_b2_ok {c : ClassFile.Cond} {a b : sv_I} {x z : Int32} {r : Bool} {pt : Nat} (hk : sv_kok C y Q G W na Re Rh lv0 w0 k) (h : sv_b2 c r a b pt k lv st fs = true) (hr : r = cm_cmp c x z) (hx : sv_vr Re Rh (fun og x => sv_os w og x ∨ sv_ol clv og x) (.inl a) (.inl x)) (hz : sv_vr Re Rh (fun og x => sv_os w og x ∨ sv_ol clv og x) (.inl b) (.inl z)) (hS : sv_St G W na Re Rh lv0 w0 lv st fs clv cst w) : cm_X C y pt clv cst w Q := by
  unfold sv_b2 at h
  rcases sv_cnd h with ⟨hf, h⟩ | ⟨_, h⟩
  · rcases sv_cnd h with ⟨h1, h2⟩ | ⟨_, h2⟩
    · rw [Bool.and_eq_true] at hf
      have hne : x ≠ z := by
        have hf1 := hf.1
        unfold sv_fk at hf1
        split at hf1
        · intro e
          unfold cm_cmp at hr
          rw [decide_eq_true e] at hr
          cases hr
        · intro e
          unfold cm_cmp at hr
          rw [decide_eq_true e] at hr
          cases hr
        · cases hf1
      have hne' : ia_E x ≠ ia_E z := fun e => hne (ia_E_inj e)
      by_cases hlt : x < z
      · exact sv_b1_ok (c := .lt) hk h1 (decide_eq_true hlt).symm hx hz hS
      · have hgt : z < x := ia_lt.mpr (by
          have hq : ¬ ia_E x < ia_E z := fun q => hlt (ia_lt.mpr q)
          omega)
        exact sv_b1_ok (c := .gt) hk h2 (decide_eq_true hgt).symm hx hz hS
    · cases h2
  · exact sv_b1_ok hk h hr hx hz hS
theorem sv_br_ok {c : ClassFile.Cond} {o : Int} {a b : sv_I} {x z : Int32} (hk : sv_kok C y Q G W na Re Rh lv0 w0 k) (hd : decode (ia_code y) pc = .ok (ins, len)) {cst' : List cm_V} (hdo : cm_do y pc ins len clv cst w = cm_br (cm_cmp c x z) o pc clv cst' w) (h : sv_br c o a b k pc lv st fs = true) (hx : sv_vr Re Rh (fun og x => sv_os w og x ∨ sv_ol clv og x) (.inl a) (.inl x)) (hz : sv_vr Re Rh (fun og x => sv_os w og x ∨ sv_ol clv og x) (.inl b) (.inl z)) (hS : sv_St G W na Re Rh lv0 w0 lv st fs clv cst' w) : cm_X C y pc clv cst w Q := by
  unfold sv_br at h
  unfold cm_br at hdo
  split at h
  · rename_i t ht
    rw [ht] at hdo
    rcases sv_cnd h with ⟨h1, h2⟩ | ⟨_, h2⟩
    · cases hc : cm_cmp c x z with
      | true =>
        rw [hc] at hdo
        exact cm_X_do (q := (t, clv, cst', w)) hd hdo (sv_b2_ok hk h1 hc.symm hx hz hS)
      | false =>
        rw [hc] at hdo
        exact cm_X_do (q := (Nat.add pc 3, clv, cst', w)) hd hdo (sv_b2_ok hk h2 hc.symm hx hz hS)
    · cases h2
  · cases h
/-- an int is put into a slot -/
theorem sv_put_ok {n i j i' pc' : Nat} {v : sv_I} {x : Int32} (hk : sv_kok C y Q G W na Re Rh lv0 w0 k) (hd : decode (ia_code y) pc = .ok (ins, len)) {cst' : List cm_V} (hdo : cm_do y pc ins len clv cst w = some (pc', clv, cst', cm_u1 w n i' x)) (h : sv_put G W n i j v k pc' lv st fs = true) (hv : sv_i Re Rh v x) (hi : i ≤ i') (hj : i' ≤ j) (hlt : j < 16384) (hS : sv_St G W na Re Rh lv0 w0 lv st fs clv cst' w) : cm_X C y pc clv cst w Q := by
  obtain ⟨s1, s2, s3, s4, s5, s6⟩ := hS
  unfold sv_put at h
  simp only [Bool.and_eq_true] at h
  obtain ⟨⟨h1, h2⟩, h⟩ := h
  have g4 : sv_w G (cm_u1 w n i' x) := sv_w_u1 s4 (sv_gi_ok hi hj hv.1 h1)
  have g5 : sv_fr W w0 (cm_u1 w n i' x) := sv_fr_u1 s5 (sv_wr_ok h2 hi hj)
  have fin : ∀ fs', sv_fs Re Rh fs' (cm_u1 w n i' x) → sv_cl lv (fun lv => sv_cs st (fun st => sv_nx k pc' lv st fs')) = true → cm_X C y pc clv cst w Q := fun fs' hf h => by
    obtain ⟨lv', hl', h⟩ := sv_cl_ok (Re := Re) (Rh := Rh) h
    obtain ⟨st', hs', h⟩ := sv_cs_ok (Re := Re) (Rh := Rh) h
    rw [sv_nx_eq] at h
    exact cm_X_do hd hdo (hk _ _ _ _ h _ _ _ ⟨hl' _ _ _ s1, hs' _ _ _ s2, hf, g4, g5, s6⟩)
  have other : ∀ (f : Nat × Nat × Nat × Nat × Nat), ¬ (f.1 / 16384 = n ∧ f.1 % 16384 = i') → sv_f1 Re Rh w f → sv_f1 Re Rh (cm_u1 w n i' x) f := fun f hne hf => by
    unfold sv_f1 at hf ⊢
    rw [sv_at_u1, if_neg hne]
    exact hf
  rcases sv_cnd h with ⟨he, h⟩ | ⟨_, h⟩
  · have he := ia_beq he
    have hi' : i' = i := by omega
    rw [ia_frc_eq] at h
    obtain ⟨fs', h1, h2⟩ := sv_mapK_ok (f := sv_fw (sv_q n i) v) (R := fun f f' => sv_f1 Re Rh w f → sv_f1 Re Rh (cm_u1 w n i' x) f') (fun f k h => by
      unfold sv_fw at h
      rcases sv_cnd h with ⟨hq, h⟩ | ⟨hq, h⟩
      · refine ⟨_, fun _ => ?_, h⟩
        show sv_i Re Rh (v.1, v.2.1, v.2.2.1, v.2.2.2.1, 0) (sv_at (cm_u1 w n i' x) (sv_q n i))
        rw [sv_at_u1, if_pos ⟨(sv_qd (by omega)).1, by rw [(sv_qd (by omega)).2, hi']⟩]
        exact ⟨hv.1, hv.2.1, hv.2.2⟩
      · refine ⟨_, fun hf => other f (fun z => ?_) hf, h⟩
        have e : f.1 = sv_q n i := by
          show f.1 = n * 16384 + i
          omega
        rw [e, cm_bq] at hq
        cases hq) fs _ h
    exact fin fs' (sv_fs_map h1 s3) h2
  · rw [ia_frc_eq, ia_frc_eq] at h
    obtain ⟨fs', h1, h2⟩ := sv_mapK_ok (f := sv_fj (sv_q n i) (sv_q n j) v) (R := fun f f' => sv_f1 Re Rh w f → sv_f1 Re Rh (cm_u1 w n i' x) f') (fun f k h => by
      unfold sv_fj at h
      rcases sv_cnd h with ⟨hq, h⟩ | ⟨hq, h⟩
      · rw [ia_frc_eq, ia_frc_eq] at h
        refine ⟨_, fun hf => ?_, h⟩
        show sv_i Re Rh (_, _, 0, 0, 0) (sv_at (cm_u1 w n i' x) f.1)
        refine ⟨?_, Or.inl rfl, Or.inl rfl⟩
        rw [sv_at_u1]
        by_cases hz : f.1 / 16384 = n ∧ f.1 % 16384 = i'
        · rw [if_pos hz]
          exact sv_hull_r (a := (f.2.1, f.2.2.1)) (b := (v.1, v.2.1)) hv.1
        · rw [if_neg hz]
          exact sv_hull_l (a := (f.2.1, f.2.2.1)) (b := (v.1, v.2.1)) hf.1
      · refine ⟨_, fun hf => other f (fun z => ?_) hf, h⟩
        have e1 : sv_q n i = n * 16384 + i := rfl
        have e2 : sv_q n j = n * 16384 + j := rfl
        rw [Nat.ble_eq.mpr (show sv_q n i ≤ f.1 from by omega), Nat.ble_eq.mpr (show f.1 ≤ sv_q n j from by omega)] at hq
        cases hq) fs _ h
    exact fin fs' (sv_fs_map h1 s3) h2
/-- the place in an array -/
theorem sv_ix_ok {n tg : Nat} {a : sv_I} {x : Int32} {f : Nat × Nat × List Nat → Nat → Nat → Bool} (h : sv_ix n tg a f = true) (hx : sv_in (a.1, a.2.1) x) : ∃ c, cm_sh n = some c ∧ Nat.beq c.1 tg = true ∧ cm_in x c.2.1 = true ∧ f c (a.1 - 2147483648) (a.2.1 - 2147483648) = true ∧ a.1 - 2147483648 ≤ x.toInt.toNat ∧ x.toInt.toNat ≤ a.2.1 - 2147483648 ∧ a.2.1 - 2147483648 < c.2.1 ∧ 2147483648 ≤ a.1 := by
  unfold sv_ix at h
  split at h
  · rename_i c hc
    simp only [Bool.and_eq_true] at h
    obtain ⟨⟨h1, h2, h3, h4⟩, h⟩ := h
    rw [ia_frc_eq, ia_frc_eq] at h
    have q2 := ia_ble h2
    have q4 : a.2.1 - 2147483648 < c.2.1 := ia_blt h4
    obtain ⟨x1, x2⟩ := hx
    have x1' : a.1 ≤ ia_E x := x1
    have x2' : ia_E x ≤ a.2.1 := x2
    have e := ia_toInt x
    have e2 : x.toInt.toNat = ia_E x - 2147483648 := by omega
    refine ⟨c, hc, h1, ?_, h, by omega, by omega, q4, q2⟩
    unfold cm_in
    rw [decide_eq_true (show 0 ≤ x.toInt from by omega)]
    exact Nat.ble_eq.mpr (show x.toInt.toNat < c.2.1 from by omega)
  · cases h
theorem sv_code0 {c : Nat × Nat × List Nat} (h : c.2.2.isEmpty = true) (h1 : c.1 ≠ 51) (i : Nat) : cm_code c i = 0 := by
  obtain ⟨a, b, l⟩ := c
  cases l with
  | cons z l => cases h
  | nil =>
    unfold cm_code
    show (match Nat.beq a 51 with
      | true => 1
      | false => 0) = 0
    cases hz : Nat.beq a 51 with
    | true => exact absurd (ia_beq hz) h1
    | false => rfl
theorem sv_code1 {c : Nat × Nat × List Nat} (h : c.2.2.isEmpty = true) (h1 : c.1 = 51) (i : Nat) : cm_code c i = 1 := by
  obtain ⟨a, b, l⟩ := c
  cases l with
  | cons z l => cases h
  | nil =>
    have h1' : a = 51 := h1
    subst h1'
    rfl
def sv_shok (c : Nat × Nat × List Nat) : Bool := Nat.blt c.2.1 16384
set_option maxRecDepth 100000 in
theorem sv_sh_all : cm_Sh.all sv_shok = true := by decide +kernel
theorem sv_sh_lt {n : Nat} {c : Nat × Nat × List Nat} (h : cm_sh n = some c) : c.2.1 < 16384 := by
  unfold cm_sh at h
  rw [ia_at_eq] at h
  exact ia_blt (List.all_eq_true.mp sv_sh_all c (List.mem_of_getElem? h))
theorem sv_al_ok {tg : Nat} (ht : tg ≠ 51) (hk : sv_kok C y Q G W na Re Rh lv0 w0 k) (hd : decode (ia_code y) pc = .ok (ins, len)) (hdo : cm_do y pc ins len clv cst w = cm_al tg pc clv cst w) (h : sv_al G tg k pc lv st fs = true) (hS : sv_St G W na Re Rh lv0 w0 lv st fs clv cst w) : cm_X C y pc clv cst w Q := by
  obtain ⟨s1, s2, s3, s4, s5, s6⟩ := hS
  unfold sv_al at h
  split at h
  · rename_i a n t
    obtain ⟨c1, ct1, rfl, hP1, s2b⟩ := sv_cons s2
    obtain ⟨c2, ct, rfl, hP2, s2c⟩ := sv_cons s2b
    obtain ⟨x, rfl, x1, -⟩ := sv_vr_int hP1
    have e2 := sv_vr_ref hP2
    subst e2
    obtain ⟨c, hc, h1, h2, h3, b1, b2, b3, b4⟩ := sv_ix_ok h x1.1
    have hlt := sv_sh_lt hc
    rw [Bool.and_eq_true] at h3
    have hne : c.1 ≠ 51 := by rw [ia_beq h1]; exact ht
    have e3 : cm_v w n x.toInt.toNat (cm_code c x.toInt.toNat) = .inl (w.1 n x.toInt.toNat) := by
      rw [sv_code0 h3.1 hne]
      rfl
    have hq : cm_do y pc ins len clv (.inl x :: .inr (.inr (some n)) :: ct) w = some (Nat.add pc 1, clv, .inl (w.1 n x.toInt.toNat) :: ct, w) := by
      rw [hdo]
      unfold cm_al
      show (match cm_sh n with
        | some c => ia_if (Nat.beq c.1 tg && cm_in x c.2.1) (cm_nx (Nat.add pc 1) clv (cm_v w n x.toInt.toNat (cm_code c x.toInt.toNat) :: ct) w)
        | none => none) = _
      rw [hc]
      refine cm_ifk (by rw [h1, h2]; rfl) ?_
      rw [e3]
      rfl
    rcases sv_cnd h3.2 with ⟨he, h⟩ | ⟨_, h⟩
    · have he := ia_beq he
      rw [sv_frc_eq, sv_nx_eq] at h
      obtain ⟨r1, r2⟩ := sv_rd_ok (k := n) (i := a.1 - 2147483648) (Nat.lt_trans (Nat.lt_of_le_of_lt (Nat.le_trans b1 b2) b3) hlt) s3 s4
      have e5 : x.toInt.toNat = a.1 - 2147483648 := Nat.le_antisymm (Nat.le_trans b2 (Nat.le_of_eq he.symm)) b1
      rw [e5] at hq
      exact cm_X_do hd hq (hk _ _ _ _ h _ _ _ ⟨s1, ⟨⟨r1, r2.imp id Or.inl⟩, s2c⟩, s3, s4, s5, s6⟩)
    · rw [ia_frc_eq, ia_frc_eq, sv_nx_eq] at h
      exact cm_X_do hd hq (hk _ _ _ _ h _ _ _ ⟨s1, ⟨sv_vr_new (sv_hl_ok b1 b2 (s4 n x.toInt.toNat)), s2c⟩, s3, s4, s5, s6⟩)
  · cases h
theorem sv_as_ok {tg : Nat} {g : Int32 → Int32} {gi : sv_I → sv_I} (ht : tg ≠ 51) (hg : ∀ a x, sv_i Re Rh a x → sv_i Re Rh (gi a) (g x)) (hk : sv_kok C y Q G W na Re Rh lv0 w0 k) (hd : decode (ia_code y) pc = .ok (ins, len)) (hdo : cm_do y pc ins len clv cst w = cm_as tg g pc clv cst w) (h : sv_as G W tg gi k pc lv st fs = true) (hS : sv_St G W na Re Rh lv0 w0 lv st fs clv cst w) : cm_X C y pc clv cst w Q := by
  obtain ⟨s1, s2, s3, s4, s5, s6⟩ := hS
  unfold sv_as at h
  split at h
  · rename_i v a n t
    obtain ⟨c0, ct0, rfl, hP0, s2a⟩ := sv_cons s2
    obtain ⟨c1, ct1, rfl, hP1, s2b⟩ := sv_cons s2a
    obtain ⟨c2, ct, rfl, hP2, s2c⟩ := sv_cons s2b
    obtain ⟨z, rfl, z1, -⟩ := sv_vr_int hP0
    obtain ⟨x, rfl, x1, -⟩ := sv_vr_int hP1
    have e2 := sv_vr_ref hP2
    subst e2
    obtain ⟨c, hc, h1, h2, h3, b1, b2, b3, b4⟩ := sv_ix_ok h x1.1
    have hlt := sv_sh_lt hc
    rw [Bool.and_eq_true, sv_frc_eq] at h3
    have hne : c.1 ≠ 51 := by rw [ia_beq h1]; exact ht
    refine sv_put_ok (n := n) (i' := x.toInt.toNat) (x := g z) hk hd (cst' := ct) ?_ h3.2 (hg _ _ z1) b1 b2 (Nat.lt_trans b3 hlt) ⟨s1, s2c, s3, s4, s5, s6⟩
    rw [hdo]
    unfold cm_as
    show (match cm_sh n with
      | some c => ia_if (Nat.beq c.1 tg && (cm_in x c.2.1 && Nat.beq (cm_code c x.toInt.toNat) 0)) (cm_nx (Nat.add pc 1) clv ct (cm_u1 w n x.toInt.toNat (g z)))
      | none => none) = _
    rw [hc]
    refine cm_ifk (by rw [h1, h2, sv_code0 h3.1 hne]; rfl) rfl
  · cases h
end SVU

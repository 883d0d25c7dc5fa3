/-! ## the checker is right: copies, calls, ends -/
section SVC
variable {C : Nat → List cm_V → cm_W → cm_O → Prop} {y : Nat} {Q : cm_O → Prop} {G : sv_GT} {W : sv_WR} {na Re Rh : Nat} {lv0 : cm_L} {w0 : cm_W} {k : sv_K}
variable {pc : Nat} {lv : sv_L} {st : List sv_V} {fs : sv_F} {clv : cm_L} {cst : List cm_V} {w : cm_W} {ins : Instr} {len : Nat}
theorem sv_sz_ok {O : Nat → Int32 → Prop} : ∀ {st : List sv_V} {cst : List cm_V}, sv_all2 (sv_vr Re Rh O) st cst → sv_sz st = ia_sz (cm_es cst)
  | [], [], _ => rfl
  | [], c :: cst, h => h.elim
  | v :: st, [], h => h.elim
  | v :: st, c :: cst, h => by
    have e := sv_sz_ok h.2
    match v, c, h.1 with
    | .inl a, .inl x, _ => exact congrArg (Nat.add 1) e
    | .inr none, .inr (.inl _), _ => exact congrArg (Nat.add 2) e
    | .inr (some k), .inr (.inr (some j)), _ => exact congrArg (Nat.add 1) e
theorem sv_two {lo : Nat} {a : sv_I} {x : Int32} (h1 : Nat.beq a.1 lo = true) (h2 : Nat.beq a.2.1 lo = true) (hx : sv_in (a.1, a.2.1) x) : ia_E x = lo := by
  have e1 := ia_beq h1
  have e2 := ia_beq h2
  obtain ⟨x1, x2⟩ := hx
  have x1' : a.1 ≤ ia_E x := x1
  have x2' : ia_E x ≤ a.2.1 := x2
  omega
theorem sv_cpy_ok (hk : sv_kok C y Q G W na Re Rh lv0 w0 k) (hd : decode (ia_code y) pc = .ok (ins, len)) {i z1 z2 z3 z4 : Nat} (hpl : ia_pl (ia_cls y) i = some (3, z1, z2, z3, z4)) (hdo : cm_do y pc ins len clv cst w = cm_inv y i pc clv cst w) (h : sv_cpy G W k pc lv st fs = true) (hS : sv_St G W na Re Rh lv0 w0 lv st fs clv cst w) : cm_X C y pc clv cst w Q := by
  obtain ⟨s1, s2, s3, s4, s5, s6⟩ := hS
  unfold sv_cpy at h
  split at h
  · rename_i n dp d sp s t
    obtain ⟨c1, ct1, rfl, hP1, t2⟩ := sv_cons s2
    obtain ⟨c2, ct2, rfl, hP2, t3⟩ := sv_cons t2
    obtain ⟨c3, ct3, rfl, hP3, t4⟩ := sv_cons t3
    obtain ⟨c4, ct4, rfl, hP4, t5⟩ := sv_cons t4
    obtain ⟨c5, ct, rfl, hP5, t6⟩ := sv_cons t5
    obtain ⟨nx, rfl, n1, -⟩ := sv_vr_int hP1
    obtain ⟨dx, rfl, d1, -⟩ := sv_vr_int hP2
    obtain ⟨sx, rfl, p1, -⟩ := sv_vr_int hP4
    have e3 := sv_vr_ref hP3
    have e5 := sv_vr_ref hP5
    subst e3
    subst e5
    split at h
    · rename_i cs hcs
      split at h
      · rename_i cd hcd
        simp only [Bool.and_eq_true] at h
        obtain ⟨⟨a1, ⟨a2, a2'⟩, ⟨a3, a3'⟩, ⟨a4, a4'⟩, a5, a6, a7, a8, a9, a10⟩, h⟩ := h
        rw [ia_frc_eq] at h
        simp only [Bool.and_eq_true, ia_frc_eq] at h
        obtain ⟨⟨b1, b2⟩, b3, h⟩ := h
        have f1 : sx = 0 := ia_E_inj (by rw [ia_E0]; exact sv_two a2 a2' p1.1)
        have f2 : dx = 0 := ia_E_inj (by rw [ia_E0]; exact sv_two a3 a3' d1.1)
        have hlt : cs.2.1 < 16000 := ia_blt a5
        have f3 : nx = Int32.ofNat cs.2.1 := ia_E_inj (by
          rw [ia_Elen (by omega), sv_two a4 a4' n1.1]
          show 2147483648 + cs.2.1 = _
          omega)
        have hq : cm_do y pc ins len clv (.inl nx :: .inl dx :: .inr (.inr (some d)) :: .inl sx :: .inr (.inr (some s)) :: ct) w = some (Nat.add pc 3, clv, ct, cm_cp w d s (16 * ((cs.2.1 + 15) / 16))) := by
          rw [hdo]
          unfold cm_inv
          rw [hpl]
          show (match cm_sh s with
            | some cs => (match cm_sh d with
              | some cd => ia_if (Nat.ble (ia_sz (cm_es ct)) 8 && (decide (sx = 0) && (decide (dx = 0) && (decide (nx = Int32.ofNat cs.2.1) && (Nat.blt cs.2.1 2147483648 && (Nat.beq cs.2.1 cd.2.1 && (Nat.beq cs.1 cd.1 && ((Nat.beq cs.1 50 || Nat.beq cs.1 51) && (cs.2.2.isEmpty && cd.2.2.isEmpty))))))))) (cm_nx (Nat.add pc 3) clv ct (cm_cp w d s (16 * ((cs.2.1 + 15) / 16))))
              | none => none)
            | none => none) = _
          rw [hcs]
          show (match cm_sh d with
              | some cd => ia_if (Nat.ble (ia_sz (cm_es ct)) 8 && (decide (sx = 0) && (decide (dx = 0) && (decide (nx = Int32.ofNat cs.2.1) && (Nat.blt cs.2.1 2147483648 && (Nat.beq cs.2.1 cd.2.1 && (Nat.beq cs.1 cd.1 && ((Nat.beq cs.1 50 || Nat.beq cs.1 51) && (cs.2.2.isEmpty && cd.2.2.isEmpty))))))))) (cm_nx (Nat.add pc 3) clv ct (cm_cp w d s (16 * ((cs.2.1 + 15) / 16))))
              | none => none) = _
          rw [hcd]
          refine cm_ifk ?_ rfl
          rw [← sv_sz_ok t6, a1, decide_eq_true f1, decide_eq_true f2, decide_eq_true f3, a6, a7, a8, a9, a10, show Nat.blt cs.2.1 2147483648 = true from Nat.ble_eq.mpr (show cs.2.1 < 2147483648 from by omega)]
          rfl
        have hm : ∀ b, b < 16 * ((cs.2.1 + 15) / 16) → b ≤ Nat.sub (Nat.mul 16 (Nat.div (Nat.add cs.2.1 15) 16)) 1 := fun b hb => Nat.le_sub_one_of_lt hb
        have g4 : sv_w G (cm_cp w d s (16 * ((cs.2.1 + 15) / 16))) := fun a b => by
          show sv_in (sv_g G a b) (if a = d ∧ b < 16 * ((cs.2.1 + 15) / 16) then w.1 s b else w.1 a b)
          by_cases hz : a = d ∧ b < 16 * ((cs.2.1 + 15) / 16)
          · rw [if_pos hz, hz.1]
            exact sv_gi_ok (Nat.zero_le _) (hm b hz.2) (sv_hl_ok (Nat.zero_le _) (hm b hz.2) (s4 s b)) b3
          · rw [if_neg hz]
            exact s4 a b
        have g5 : sv_fr W w0 (cm_cp w d s (16 * ((cs.2.1 + 15) / 16))) := fun a b hab => by
          have hz : ¬ (a = d ∧ b < 16 * ((cs.2.1 + 15) / 16)) := fun hz => by
            rw [hz.1] at hab
            exact hab (sv_wr_ok b2 (Nat.zero_le _) (hm b hz.2))
          refine ⟨?_, ?_⟩
          · show (if a = d ∧ b < 16 * ((cs.2.1 + 15) / 16) then w.1 s b else w.1 a b) = _
            rw [if_neg hz]
            exact (s5 a b hab).1
          · show (if a = d ∧ b < 16 * ((cs.2.1 + 15) / 16) then w.2 s b else w.2 a b) = _
            rw [if_neg hz]
            exact (s5 a b hab).2
        obtain ⟨fs', h1, h⟩ := sv_mapK_ok (R := fun f f' => sv_f1 Re Rh w f → sv_f1 Re Rh (cm_cp w d s (16 * ((cs.2.1 + 15) / 16))) f') (fun f k h => by
          unfold sv_fj at h
          rcases sv_cnd h with ⟨hq, h⟩ | ⟨hq, h⟩
          · rw [ia_frc_eq, ia_frc_eq] at h
            refine ⟨_, fun hf => ?_, h⟩
            refine ⟨?_, Or.inl rfl, Or.inl rfl⟩
            show sv_in _ (if f.1 / 16384 = d ∧ f.1 % 16384 < 16 * ((cs.2.1 + 15) / 16) then w.1 s (f.1 % 16384) else sv_at w f.1)
            by_cases hz : f.1 / 16384 = d ∧ f.1 % 16384 < 16 * ((cs.2.1 + 15) / 16)
            · rw [if_pos hz]
              exact sv_hull_r (a := (f.2.1, f.2.2.1)) (b := (_, _)) (sv_hl_ok (Nat.zero_le _) (hm _ hz.2) (s4 s (f.1 % 16384)))
            · rw [if_neg hz]
              exact sv_hull_l (a := (f.2.1, f.2.2.1)) (b := (_, _)) hf.1
          · refine ⟨_, fun hf => ?_, h⟩
            have hz : ¬ (f.1 / 16384 = d ∧ f.1 % 16384 < 16 * ((cs.2.1 + 15) / 16)) := fun hz => by
              have e1 : sv_q d 0 = d * 16384 + 0 := rfl
              have e2 : sv_q d (Nat.sub (Nat.mul 16 (Nat.div (Nat.add cs.2.1 15) 16)) 1) = d * 16384 + (Nat.sub (Nat.mul 16 (Nat.div (Nat.add cs.2.1 15) 16)) 1) := rfl
              have e3 := hm _ hz.2
              rw [Nat.ble_eq.mpr (show sv_q d 0 ≤ f.1 from by omega), Nat.ble_eq.mpr (show f.1 ≤ sv_q d (Nat.sub (Nat.mul 16 (Nat.div (Nat.add cs.2.1 15) 16)) 1) from by rw [e2]; omega)] at hq
              cases hq
            show sv_i Re Rh _ (if f.1 / 16384 = d ∧ f.1 % 16384 < 16 * ((cs.2.1 + 15) / 16) then w.1 s (f.1 % 16384) else sv_at w f.1)
            rw [if_neg hz]
            exact hf) fs _ h
        obtain ⟨lv', hl', h⟩ := sv_cl_ok (Re := Re) (Rh := Rh) h
        obtain ⟨st', hs', h⟩ := sv_cs_ok (Re := Re) (Rh := Rh) h
        rw [sv_nx_eq] at h
        exact cm_X_do hd hq (hk _ _ _ _ h _ _ _ ⟨hl' _ _ _ s1, hs' _ _ _ t6, sv_fs_map h1 s3, g4, g5, s6⟩)
      · cases h
    · cases h
  · cases h
theorem sv_take_ok {kk : List sv_V → List sv_V → Bool} : ∀ (n : Nat) (acc st : List sv_V), sv_take n acc st kk = true → n ≤ st.length ∧ kk ((st.take n).reverse ++ acc) (st.drop n) = true
  | 0, acc, st, h => ⟨Nat.zero_le _, h⟩
  | n + 1, acc, [], h => by cases h
  | n + 1, acc, a :: t, h => by
    obtain ⟨h1, h2⟩ := sv_take_ok n (a :: acc) t h
    refine ⟨Nat.succ_le_succ h1, ?_⟩
    rw [List.take_succ_cons, List.reverse_cons, List.append_assoc]
    exact h2
theorem sv_a2_take {α β : Type} {P : α → β → Prop} : ∀ (n : Nat) {l : List α} {m : List β}, sv_all2 P l m → sv_all2 P (l.take n) (m.take n)
  | 0, _, _, _ => trivial
  | n + 1, [], [], h => h
  | n + 1, a :: l, b :: m, h => ⟨h.1, sv_a2_take n h.2⟩
  | n + 1, [], b :: m, h => h.elim
  | n + 1, a :: l, [], h => h.elim
theorem sv_a2_drop {α β : Type} {P : α → β → Prop} : ∀ (n : Nat) {l : List α} {m : List β}, sv_all2 P l m → sv_all2 P (l.drop n) (m.drop n)
  | 0, _, _, h => h
  | n + 1, [], [], h => h
  | n + 1, a :: l, b :: m, h => sv_a2_drop n h.2
  | n + 1, [], b :: m, h => h.elim
  | n + 1, a :: l, [], h => h.elim
theorem sv_a2_rev {α β : Type} {P : α → β → Prop} : ∀ {l : List α} {m : List β}, sv_all2 P l m → sv_all2 P l.reverse m.reverse
  | [], [], h => h
  | a :: l, b :: m, h => by
    rw [List.reverse_cons, List.reverse_cons]
    exact sv_a2_app (sv_a2_rev h.2) ⟨h.1, trivial⟩
  | [], b :: m, h => h.elim
  | a :: l, [], h => h.elim
theorem sv_s1_ok {H : Bool} {a b : sv_I} {x : Int32} (h : sv_s1 H a b = true) (hx : sv_i Re Rh a x) : sv_in (b.1, b.2.1) x ∧ (b.2.2.1 = 0 ∨ Re + b.2.2.1 ≤ ia_E x + 1) ∧ (H = true → (b.2.2.2.1 = 0 ∨ Rh + b.2.2.2.1 ≤ ia_E x + 1)) := by
  unfold sv_s1 at h
  simp only [Bool.and_eq_true] at h
  obtain ⟨⟨h1, h2⟩, h3, h4⟩ := h
  have q3 := ia_ble h3
  obtain ⟨⟨x1, x2⟩, x3, x4⟩ := hx
  refine ⟨⟨Nat.le_trans (ia_ble h1) x1, Nat.le_trans x2 (ia_ble h2)⟩, ?_, fun hH => ?_⟩
  · rcases x3 with z | z
    · left; omega
    · right; omega
  · rw [hH] at h4
    have q4 : b.2.2.2.1 ≤ a.2.2.2.1 := ia_ble h4
    rcases x4 with z | z
    · left; omega
    · right; omega
theorem sv_s2_0 {O : Nat → Int32 → Prop} {H : Bool} {a b : sv_V} {c : cm_V} (h : sv_s2 H a b = true) (hc : sv_vr Re Rh O a c) : sv_v0 b c := by
  match a, b, c, h, hc with
  | .inl a, .inl b, .inl x, h, hc => exact (sv_s1_ok h hc.1).1
  | .inr none, .inr none, .inr (.inl _), _, _ => trivial
  | .inr (some k), .inr (some j), .inr (.inr (some z)), h, hc =>
    have h1 : k = j := ia_beq h
    have h2 : z = k := hc
    exact h2.trans h1
theorem sv_z0 {b : sv_V} {c : cm_V} (h : sv_v0 (match b with
    | .inl b => .inl (b.1, b.2.1, 0, 0, 0)
    | .inr o => .inr o) c) : sv_v0 b c := by
  match b, c, h with
  | .inl b, .inl x, h => exact h
  | .inr none, .inr (.inl _), _ => trivial
  | .inr (some k), .inr (.inr (some j)), h => exact h
theorem sv_sf_ok {H : Bool} {f : Nat × Nat × Nat × Nat × Nat} (h : sv_sf G H fs f = true) (s3 : sv_fs Re Rh fs w) (s4 : sv_w G w) : sv_in (f.2.1, f.2.2.1) (sv_at w f.1) ∧ (f.2.2.2.1 = 0 ∨ Re + f.2.2.2.1 ≤ ia_E (sv_at w f.1) + 1) ∧ (H = true → (f.2.2.2.2 = 0 ∨ Rh + f.2.2.2.2 ≤ ia_E (sv_at w f.1) + 1)) := sv_s1_ok h (sv_fv_at s3 s4).1
theorem sv_sp_ok {rk : Nat} {f : Nat × Nat × Nat × Nat × Nat} (h : sv_sp G rk fs f = true) (s3 : sv_fs Re Rh fs w) (s4 : sv_w G w) : sv_f1 (ia_E (sv_at w rk)) 0 w f := by
  unfold sv_sp at h
  simp only [Bool.and_eq_true] at h
  obtain ⟨h1, h2, h3⟩ := h
  refine ⟨(sv_sf_ok h1 s3 s4).1, ?_, Or.inl (ia_beq h2)⟩
  rw [Bool.or_eq_true] at h3
  rcases h3 with h3 | h3
  · exact Or.inl (ia_beq h3)
  · rw [Bool.and_eq_true] at h3
    have e := ia_beq h3.1
    have l := ia_ble h3.2
    right
    show _ + f.2.2.2.1 ≤ ia_E (sv_at w f.1) + 1
    rw [e]
    omega
theorem sv_inw_ok {q : Nat} (h : sv_inw W q = false) : ¬ sv_hit W (q / 16384) (q % 16384) := by
  rintro ⟨r, h1, h2, h3, h4⟩
  have : sv_inw W q = true := sv_anyb_of h1 (by
    show (Nat.beq r.1 (q / 16384) && (Nat.ble r.2.1 (q % 16384) && Nat.ble (q % 16384) r.2.2)) = true
    rw [h2, cm_bq, Nat.ble_eq.mpr h3, Nat.ble_eq.mpr h4]
    rfl)
  rw [h] at this
  cases this
theorem sv_ars_ok {ar as : List sv_V} {cas : List cm_V} {kk : sv_L → sv_F → Bool} (ha : sv_all2 (sv_vr Re Rh (fun og x => sv_os w og x ∨ sv_ol clv og x)) as cas) (hp : sv_pre ar cas) : ∀ {lv : sv_L} {fs : sv_F}, sv_ars as ar lv fs kk = true → sv_all2 (sv_ov (sv_vr Re Rh (sv_os w))) lv clv → sv_fs Re Rh fs w → ∃ lv' fs', sv_all2 (sv_ov (sv_vr Re Rh (sv_os w))) lv' clv ∧ sv_fs Re Rh fs' w ∧ kk lv' fs' = true := by
  induction ar generalizing as cas with
  | nil => intro lv fs h hl hf; exact ⟨lv, fs, hl, hf, h⟩
  | cons b ar ih =>
    intro lv fs h hl hf
    match as, cas, ha, hp with
    | [], [], _, hp => exact hp.elim
    | [], c :: cas, ha, _ => exact ha.elim
    | a :: as, [], ha, _ => exact ha.elim
    | a :: as, c :: cas, ha, hp =>
      match a, c, ha.1 with
      | .inr o, c, _ => exact ih ha.2 hp.2 (lv := lv) (fs := fs) h hl hf
      | .inl a, .inl x, ha1 =>
        match b, hp.1, h with
        | .inr o, _, h => exact ih ha.2 hp.2 (lv := lv) (fs := fs) h hl hf
        | .inl b, hb, h =>
          have h' : cond (Nat.beq a.2.2.2.2 0) (sv_ars as ar lv fs kk) (sv_rf a.2.2.2.2 (b.1, b.2.1) lv fs (fun lv fs => sv_ars as ar lv fs kk)) = true := h
          rcases sv_cnd h' with ⟨_, h'⟩ | ⟨_, h'⟩
          · exact ih ha.2 hp.2 h' hl hf
          · obtain ⟨lv1, fs1, t1, t3, h1⟩ := sv_rf_ok h' ha1.2 hb hl hf
            exact ih ha.2 hp.2 h1 t1 t3
theorem sv_can_ok {O : Nat → Int32 → Prop} {ar as : List sv_V} {cas : List cm_V} (ha : sv_all2 (sv_vr Re Rh O) as cas) (hp : sv_pre ar cas) : sv_can as ar = true := by
  induction ar generalizing as cas with
  | nil => rfl
  | cons b ar ih =>
    match as, cas, ha, hp with
    | [], [], _, hp => exact hp.elim
    | [], c :: cas, ha, _ => exact ha.elim
    | a :: as, [], ha, _ => exact ha.elim
    | a :: as, c :: cas, ha, hp =>
      match a, c, ha.1 with
      | .inr o, c, _ => exact ih ha.2 hp.2
      | .inl a, .inl x, ha1 =>
        match b, hp.1 with
        | .inr o, _ => exact ih ha.2 hp.2
        | .inl b, hb =>
          show cond (Nat.ble a.1 b.2.1 && Nat.ble b.1 a.2.1) (sv_can as ar) false = true
          have q1 : a.1 ≤ b.2.1 := Nat.le_trans ha1.1.1.1 hb.2
          have q2 : b.1 ≤ a.2.1 := Nat.le_trans hb.1 ha1.1.1.2
          rw [Nat.ble_eq.mpr q1, Nat.ble_eq.mpr q2]
          exact ih ha.2 hp.2
/-- behind a call -/
theorem sv_dc_ok {R Rc d e u : Nat} (h1 : d = 0 ∨ R + d ≤ Rc + 1) (h2 : e = 0 ∨ Rc + e ≤ u + 1) : sv_dc d e = 0 ∨ R + sv_dc d e ≤ u + 1 := by
  unfold sv_dc
  cases hd : Nat.beq d 0 with
  | true => exact Or.inl rfl
  | false =>
    rw [cond_false]
    cases he : Nat.beq e 0 with
    | true => exact Or.inl rfl
    | false =>
      right
      rw [cond_false]
      show R + (d + e - 1) ≤ u + 1
      have hd' : d ≠ 0 := fun z => by rw [z] at hd; cases hd
      rcases h1 with h1 | h1
      · rw [h1] at hd; cases hd
      · rcases h2 with h2 | h2
        · rw [h2] at he; cases he
        · omega
theorem sv_fc_ok {Ws : sv_WR} {rk : Nat} {r : sv_I} {o : sv_F} {w' : cm_W} (hr : sv_i Re Rh r (sv_at w rk)) (hG : sv_w G w') (hfr : sv_fr Ws w w') (ho : sv_fs (ia_E (sv_at w rk)) 0 (o.map (fun f => (f.1, f.2.1, f.2.2.1, f.2.2.2.1, 0))) w') (f : Nat × Nat × Nat × Nat × Nat) (kk : Nat × Nat × Nat × Nat × Nat → Bool) (hf : sv_f1 Re Rh w f) (h : sv_fc G Ws r o f kk = true) : ∃ f', sv_f1 Re Rh w' f' ∧ kk f' = true := by
  have hof : ∀ g ∈ o, sv_in (g.2.1, g.2.2.1) (sv_at w' g.1) ∧ (g.2.2.2.1 = 0 ∨ ia_E (sv_at w rk) + g.2.2.2.1 ≤ ia_E (sv_at w' g.1) + 1) := fun g hg => by
    have := ho _ (List.mem_map.mpr ⟨g, hg, rfl⟩)
    exact ⟨this.1, this.2.1⟩
  unfold sv_fc at h
  rcases sv_cnd h with ⟨_, h⟩ | ⟨hw, h⟩
  · rw [sv_frc_eq, ia_frc_eq, ia_frc_eq] at h
    refine ⟨_, ?_, h⟩
    have hv : sv_in ((sv_fv o f.1 ((sv_g G (Nat.div f.1 16384) (Nat.mod f.1 16384)).1, (sv_g G (Nat.div f.1 16384) (Nat.mod f.1 16384)).2, 0, 0, 0)).1, (sv_fv o f.1 ((sv_g G (Nat.div f.1 16384) (Nat.mod f.1 16384)).1, (sv_g G (Nat.div f.1 16384) (Nat.mod f.1 16384)).2, 0, 0, 0)).2.1) (sv_at w' f.1) ∧ ((sv_fv o f.1 ((sv_g G (Nat.div f.1 16384) (Nat.mod f.1 16384)).1, (sv_g G (Nat.div f.1 16384) (Nat.mod f.1 16384)).2, 0, 0, 0)).2.2.1 = 0 ∨ ia_E (sv_at w rk) + (sv_fv o f.1 ((sv_g G (Nat.div f.1 16384) (Nat.mod f.1 16384)).1, (sv_g G (Nat.div f.1 16384) (Nat.mod f.1 16384)).2, 0, 0, 0)).2.2.1 ≤ ia_E (sv_at w' f.1) + 1) := by
      refine sv_fv_T (T := fun v => sv_in (v.1, v.2.1) (sv_at w' f.1) ∧ (v.2.2.1 = 0 ∨ ia_E (sv_at w rk) + v.2.2.1 ≤ ia_E (sv_at w' f.1) + 1)) (fun g h1 h2 => ?_) ⟨hG _ _, Or.inl rfl⟩
      have := hof g h1
      rw [h2] at this
      exact this
    exact ⟨hv.1, sv_dc_ok hr.2.1 hv.2, sv_dc_ok hr.2.2 hv.2⟩
  · have e : sv_at w' f.1 = sv_at w f.1 := (hfr _ _ (sv_inw_ok hw)).1
    split at h
    · rename_i p hp
      obtain ⟨g, h1, h2, rfl⟩ := sv_fq_T hp
      have hin := (hof g h1).1
      rw [h2] at hin
      exact sv_fm_ok (Re := Re) (Rh := Rh) (w := w') hin f kk (by unfold sv_f1 at hf ⊢; rw [e]; exact hf) h
    · exact ⟨f, by unfold sv_f1 at hf ⊢; rw [e]; exact hf, h⟩
end SVC

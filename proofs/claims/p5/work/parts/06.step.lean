/-! ## one instruction: what the run knows behind it is enough ahead of it -/
section IAS
variable {p : Program} {l : Launch} {e : Env} {R : Room} {s : State} {m : MethodId} {args : Array Value} {below : List Frame} {meth : Method} {c : Code} {Q : State → Prop}
def ia_WW (p : Program) (l : Launch) (e : Env) (R : Room) (s : State) (m : MethodId) (args : Array Value) (below : List Frame) (meth : Method) (c : Code) (Q : State → Prop) (D : va_G) (sa : Nat × Nat) (A : Nat → Prop) (as0 : List Nat) (nL y pc : Nat) (lv : List (Option ia_V)) (st : List ia_V) (σ : ia_H) (n nc ns : Nat) : Prop :=
  ∀ (H : Heap) (locs : List Loc) (ws : va_W) (tys : List (ClassId × FieldType)) (ls : Array Slot) (l' : List (Nat × Value)) (vst : List Value),
    lv_has ls nL l' → ia_L sa (ws.map Prod.fst) lv l' → ia_S sa (ws.map Prod.fst) st vst → va_K D vwCl tys s → va_P D vwCl ws H → va_D A ws → va_S A s.heap H locs → ws.length = n → ia_R sa tys σ ws → (∃ x, ws.map Prod.fst = as0 ++ x) → nc ≤ ia_mc y → ns ≤ ia_ms y → W p l e R s m args below meth c H locs nc ns Q (F0 m pc ls vst)
variable {D : va_G} {sa : Nat × Nat} {A : Nat → Prop} {as0 : List Nat} {nL y pc : Nat} {lv : List (Option ia_V)} {st : List ia_V} {σ : ia_H} {n nc ns : Nat} {ih : ia_K} {out : ia_O}
abbrev ia_IH (p : Program) (l : Launch) (e : Env) (R : Room) (s : State) (m : MethodId) (args : Array Value) (below : List Frame) (meth : Method) (c : Code) (Q : State → Prop) (D : va_G) (sa : Nat × Nat) (A : Nat → Prop) (as0 : List Nat) (nL y : Nat) (ih : ia_K) (out : ia_O) : Prop := ∀ (pc : Nat) (lv : List (Option ia_V)) (st : List ia_V) (σ : ia_H) (n nc ns : Nat), ih pc lv st σ n nc ns = some out → ia_WW p l e R s m args below meth c Q D sa A as0 nL y pc lv st σ n nc ns
theorem ia_nx_eq (ih : ia_K) (pc : Nat) (lv : List (Option ia_V)) (st : List ia_V) (σ : ia_H) (n nc ns : Nat) : ia_nx ih pc lv st σ n nc ns = ih pc lv st σ n nc ns := ia_frc_eq _ _
theorem ia_pi_eq (ih : ia_K) (r pc : Nat) (lv : List (Option ia_V)) (st : List ia_V) (σ : ia_H) (n nc ns : Nat) : ia_pi ih r pc lv st σ n nc ns = ih pc lv (.inl (r, r) :: st) σ n nc ns := by
  unfold ia_pi
  rw [ia_frc_eq, ia_nx_eq]
/-- a value is pushed -/
theorem ia_g_push {a : ia_V} {v : Value} {pc2 : Nat} (hv : ∀ ad, ia_v sa ad a v) (rule : ∀ (H : Heap) (locs : List Loc) (ls : Array Slot) (vst : List Value), W p l e R s m args below meth c H locs nc ns Q (F0 m pc2 ls (v :: vst)) → W p l e R s m args below meth c H locs nc ns Q (F0 m pc ls vst))
    (k : ia_WW p l e R s m args below meth c Q D sa A as0 nL y pc2 lv (a :: st) σ n nc ns) : ia_WW p l e R s m args below meth c Q D sa A as0 nL y pc lv st σ n nc ns := by
  intro H locs ws tys ls l' vst hl hL hSt hK hP hD hS hn hR hx h1 h2
  exact rule _ _ _ _ (k H locs ws tys ls l' (v :: vst) hl hL ⟨v, vst, rfl, hv _, hSt⟩ hK hP hD hS hn hR hx h1 h2)
theorem ia_v_one (sa : Nat × Nat) (ad : List Nat) (x : Int32) : ia_v sa ad (.inl (ia_E x, ia_E x)) (.int x) := ⟨x, rfl, Nat.le_refl _, Nat.le_refl _⟩
theorem ia_v_all (sa : Nat × Nat) (ad : List Nat) (x : Int32) : ia_v sa ad (.inl ia_top) (.int x) := ⟨x, rfl, Nat.zero_le _, Nat.le_of_lt_succ (ia_E_lt x)⟩
/-- a local is pushed -/
theorem ia_g_ld {kd i len : Nat} (rule : ∀ (v : Value) (H : Heap) (locs : List Loc) (ls : Array Slot) (vst : List Value), (match kd with | 0 => ∃ x, v = .int x | 1 => ∃ x, v = .long x | _ => ∃ x, v = .ref x) → ls[i]? = some (.val v) → W p l e R s m args below meth c H locs nc ns Q (F0 m (Nat.add pc len) ls (v :: vst)) → W p l e R s m args below meth c H locs nc ns Q (F0 m pc ls vst))
    (ihk : ia_IH p l e R s m args below meth c Q D sa A as0 nL y ih out) (h : ia_ld kd i len ih pc lv st σ n nc ns = some out) : ia_WW p l e R s m args below meth c Q D sa A as0 nL y pc lv st σ n nc ns := by
  unfold ia_ld at h
  rw [ia_at_eq] at h
  intro H locs ws tys ls l' vst hl hL hSt hK hP hD hS hn hR hx h1 h2
  split at h
  · rename_i v hv
    obtain ⟨hk, h⟩ := ia_if_eq h
    rw [ia_nx_eq] at h
    obtain ⟨w, g1, g2⟩ := hL i v hv
    refine rule w _ _ _ _ ?_ (hl.2.2 _ g1) (ihk _ _ _ _ _ _ _ h H locs ws tys ls l' (w :: vst) hl hL ⟨w, vst, rfl, g2, hSt⟩ hK hP hD hS hn hR hx h1 h2)
    rcases v with q | z | (_ | z) | (_ | _ | u)
    · have := ia_beq hk; subst this; obtain ⟨x, rfl, -⟩ := g2; exact ⟨x, rfl⟩
    · have := ia_beq hk; subst this; cases g2; exact ⟨_, rfl⟩
    · cases hk
    · have := ia_beq hk; subst this; obtain ⟨x, -, rfl⟩ := g2; exact ⟨x, rfl⟩
    · have := ia_beq (Bool.and_eq_true _ _ ▸ hk).1; subst this; cases g2; exact ⟨_, rfl⟩
    · have := ia_beq (Bool.and_eq_true _ _ ▸ hk).1; subst this; cases g2; exact ⟨_, rfl⟩
    · have hk2 : (Nat.beq kd 2 && Nat.blt (u + 2) 2) = true := hk
      rw [Bool.and_eq_true] at hk2
      have := ia_blt hk2.2
      omega
  · cases h
theorem ia_nl_spec {i j : Nat} {w : Nat} (h : ia_nl lv i = true) (hj : j + 1 = i) : ¬ lv[j]? = some (some (.inr (.inl w))) := by
  subst hj
  intro z
  have h' : (match ia_at lv j with
  | some (some (.inr (.inl _))) => false
  | _ => true) = true := h
  rw [ia_at_eq, z] at h'
  cases h'
theorem ia_notlong {ad : List Nat} {a : ia_V} {v : Value} (h : ia_v sa ad a v) (hc : v.category = 2) : ∃ w, a = .inr (.inl w) := by
  rcases a with q | z | (_ | z) | (_ | _ | u)
  · obtain ⟨x, rfl, -⟩ := h; cases hc
  · exact ⟨z, rfl⟩
  · cases h; cases hc
  · obtain ⟨x, -, rfl⟩ := h; cases hc
  · cases h; cases hc
  · cases h; cases hc
  · rcases h with rfl | ⟨b, rfl⟩ <;> cases hc
theorem ia_L_set {ad : List Nat} {l' : List (Nat × Value)} {i : Nat} {a : ia_V} {v : Value} (hL : ia_L sa ad lv l') (hnl : ia_nl lv i = true) (hv : ia_v sa ad a v) : ia_L sa ad (lv.set i (some a)) ((i, v) :: l'.filter (fun q => !(q.1 == i) && !(q.1 + 1 == i && q.2.category == 2))) := by
  intro j b hj
  by_cases hji : j = i
  · subst hji
    have hlt : j < lv.length := by
      have := (List.getElem?_eq_some_iff.mp hj).1
      simpa using this
    rw [List.getElem?_set_self hlt] at hj
    cases hj
    exact ⟨v, List.mem_cons_self, hv⟩
  · rw [List.getElem?_set_ne (fun z => hji z.symm)] at hj
    obtain ⟨w, g1, g2⟩ := hL j b hj
    refine ⟨w, List.mem_cons_of_mem _ (List.mem_filter.mpr ⟨g1, ?_⟩), g2⟩
    simp only [Bool.and_eq_true, Bool.not_eq_true', beq_eq_false_iff_ne, ne_eq, Bool.and_eq_false_iff]
    refine ⟨hji, ?_⟩
    by_cases hz : j + 1 = i
    · refine Or.inr (fun hc => ?_)
      obtain ⟨w', rfl⟩ := ia_notlong g2 hc
      exact ia_nl_spec hnl hz hj
    · exact Or.inl hz
theorem ia_g_sto {kd i len : Nat} (rule : ∀ (v : Value) (l' l2 : List (Nat × Value)) (H : Heap) (locs : List Loc) (ls : Array Slot) (vst : List Value), (match kd with | 0 => ∃ x, v = .int x | 1 => ∃ x, v = .long x | _ => ∃ x, v = .ref x) → lv_has ls nL l' → (i, v) :: l'.filter (fun q => !(q.1 == i) && !(q.1 + 1 == i && q.2.category == 2)) = l2 → (∀ ls', lv_has ls' nL l2 → W p l e R s m args below meth c H locs nc ns Q (F0 m (Nat.add pc len) ls' vst)) → W p l e R s m args below meth c H locs nc ns Q (F0 m pc ls (v :: vst)))
    (ihk : ia_IH p l e R s m args below meth c Q D sa A as0 nL y ih out) (h : ia_sto kd i len ih pc lv st σ n nc ns = some out) : ia_WW p l e R s m args below meth c Q D sa A as0 nL y pc lv st σ n nc ns := by
  unfold ia_sto at h
  intro H locs ws tys ls l' vst hl hL hSt hK hP hD hS hn hR hx h1 h2
  split at h
  · rename_i v t
    obtain ⟨w, vt, rfl, g2, g3⟩ := hSt
    obtain ⟨hk, h⟩ := ia_if_eq h
    rw [Bool.and_eq_true] at hk
    rw [ia_setK_eq, ia_nx_eq] at h
    refine rule w l' _ _ _ _ _ ?_ hl rfl (fun ls' hl2 => ihk _ _ _ _ _ _ _ h H locs ws tys ls' _ vt hl2 (ia_L_set hL hk.2 g2) g3 hK hP hD hS hn hR hx h1 h2)
    have hk := hk.1
    rcases v with q | z | (_ | z) | (_ | _ | u)
    · have := ia_beq hk; subst this; obtain ⟨x, rfl, -⟩ := g2; exact ⟨x, rfl⟩
    · have := ia_beq hk; subst this; cases g2; exact ⟨_, rfl⟩
    · cases hk
    · have := ia_beq hk; subst this; obtain ⟨x, -, rfl⟩ := g2; exact ⟨x, rfl⟩
    · have := ia_beq (Bool.and_eq_true _ _ ▸ hk).1; subst this; cases g2; exact ⟨_, rfl⟩
    · have := ia_beq (Bool.and_eq_true _ _ ▸ hk).1; subst this; cases g2; exact ⟨_, rfl⟩
    · have hk2 : (Nat.beq kd 2 && Nat.blt (u + 2) 2) = true := hk
      rw [Bool.and_eq_true] at hk2
      have := ia_blt hk2.2
      omega
  · cases h
theorem ia_g_stl {i len : Nat} (rule : ∀ (v : Int64) (l' l2 : List (Nat × Value)) (H : Heap) (locs : List Loc) (ls : Array Slot) (vst : List Value), lv_has ls nL l' → (i, Value.long v) :: l'.filter (fun q => !(q.1 == i) && (!(q.1 == i + 1) && !(q.1 + 1 == i && q.2.category == 2))) = l2 → (∀ ls', lv_has ls' nL l2 → W p l e R s m args below meth c H locs nc ns Q (F0 m (Nat.add pc len) ls' vst)) → W p l e R s m args below meth c H locs nc ns Q (F0 m pc ls (.long v :: vst)))
    (ihk : ia_IH p l e R s m args below meth c Q D sa A as0 nL y ih out) (h : ia_stl i len ih pc lv st σ n nc ns = some out) : ia_WW p l e R s m args below meth c Q D sa A as0 nL y pc lv st σ n nc ns := by
  unfold ia_stl at h
  intro H locs ws tys ls l' vst hl hL hSt hK hP hD hS hn hR hx h1 h2
  split at h
  · rename_i v t
    obtain ⟨w, vt, rfl, g2, g3⟩ := hSt
    cases g2
    obtain ⟨hk, h⟩ := ia_if_eq h
    rw [ia_setK_eq, ia_setK_eq, ia_nx_eq] at h
    refine rule _ l' _ _ _ _ _ hl rfl (fun ls' hl2 => ihk _ _ _ _ _ _ _ h H locs ws tys ls' _ vt hl2 ?_ g3 hK hP hD hS hn hR hx h1 h2)
    intro j b hj
    by_cases hj1 : j = i + 1
    · subst hj1
      have hlt : i + 1 < (lv.set i (some (.inr (.inl v)))).length := by
        have := (List.getElem?_eq_some_iff.mp hj).1
        simpa using this
      rw [show Nat.succ i = i + 1 from rfl, List.getElem?_set_self hlt] at hj
      cases hj
    · rw [List.getElem?_set_ne (fun z => hj1 z.symm)] at hj
      by_cases hji : j = i
      · subst hji
        have hlt : j < lv.length := by
          have := (List.getElem?_eq_some_iff.mp hj).1
          simpa using this
        rw [List.getElem?_set_self hlt] at hj
        cases hj
        exact ⟨_, List.mem_cons_self, rfl⟩
      · rw [List.getElem?_set_ne (fun z => hji z.symm)] at hj
        obtain ⟨w, g1, g2⟩ := hL j b hj
        refine ⟨w, List.mem_cons_of_mem _ (List.mem_filter.mpr ⟨g1, ?_⟩), g2⟩
        simp only [Bool.and_eq_true, Bool.not_eq_true', beq_eq_false_iff_ne, ne_eq, Bool.and_eq_false_iff]
        refine ⟨hji, hj1, ?_⟩
        by_cases hz : j + 1 = i
        · refine Or.inr (fun hc => ?_)
          obtain ⟨w', rfl⟩ := ia_notlong g2 hc
          exact ia_nl_spec hk hz hj
        · exact Or.inl hz
  · cases h
/-- two ints become one -/
theorem ia_g_bin {f : Nat → Nat → Nat} {op : Int32 → Int32 → Int32} (hf : ∀ x y, ia_E (op x y) = f (ia_E x) (ia_E y)) (Pz : Int32 → Prop) (hPz : ∀ b t, st = .inl b :: t → ∀ z, b.1 ≤ ia_E z → ia_E z ≤ b.2 → Pz z)
    (rule : ∀ (x z : Int32) (H : Heap) (locs : List Loc) (ls : Array Slot) (vst : List Value), Pz z → W p l e R s m args below meth c H locs nc ns Q (F0 m (Nat.add pc 1) ls (.int (op x z) :: vst)) → W p l e R s m args below meth c H locs nc ns Q (F0 m pc ls (.int z :: .int x :: vst)))
    (ihk : ia_IH p l e R s m args below meth c Q D sa A as0 nL y ih out) (h : ia_bin f ih pc lv st σ n nc ns = some out) : ia_WW p l e R s m args below meth c Q D sa A as0 nL y pc lv st σ n nc ns := by
  unfold ia_bin at h
  intro H locs ws tys ls l' vst hl hL hSt hK hP hD hS hn hR hx h1 h2
  split at h
  · rename_i b a t
    obtain ⟨_, _, rfl, ⟨z, rfl, z1, z2⟩, _, vt, rfl, ⟨x, rfl, x1, x2⟩, g3⟩ := hSt
    have hz := hPz b _ rfl z z1 z2
    refine rule x z _ _ _ _ hz ?_
    split at h
    · rename_i ha
      split at h
      · rename_i hb
        rw [ia_pi_eq] at h
        refine ihk _ _ _ _ _ _ _ h H locs ws tys ls l' _ hl hL ⟨_, _, rfl, ?_, g3⟩ hK hP hD hS hn hR hx h1 h2
        rw [← ia_one (ia_beq ha) x1 x2, ← ia_one (ia_beq hb) z1 z2, ← hf]
        exact ia_v_one _ _ _
      · rw [ia_nx_eq] at h
        exact ihk _ _ _ _ _ _ _ h H locs ws tys ls l' _ hl hL ⟨_, _, rfl, ia_v_all _ _ _, g3⟩ hK hP hD hS hn hR hx h1 h2
    · rw [ia_nx_eq] at h
      exact ihk _ _ _ _ _ _ _ h H locs ws tys ls l' _ hl hL ⟨_, _, rfl, ia_v_all _ _ _, g3⟩ hK hP hD hS hn hR hx h1 h2
  · cases h
theorem ia_op_ok (op : Int32 → Int32 → Int32) (x z : Int32) : ia_E (op x z) = ia_op op (ia_E x) (ia_E z) := by
  unfold ia_op
  rw [ia_DE, ia_DE]
theorem ia_g_un {f : Nat → Nat} {op : Int32 → Int32} (hf : ∀ x, ia_E (op x) = f (ia_E x))
    (rule : ∀ (x : Int32) (H : Heap) (locs : List Loc) (ls : Array Slot) (vst : List Value), W p l e R s m args below meth c H locs nc ns Q (F0 m (Nat.add pc 1) ls (.int (op x) :: vst)) → W p l e R s m args below meth c H locs nc ns Q (F0 m pc ls (.int x :: vst)))
    (ihk : ia_IH p l e R s m args below meth c Q D sa A as0 nL y ih out) (h : ia_un f ih pc lv st σ n nc ns = some out) : ia_WW p l e R s m args below meth c Q D sa A as0 nL y pc lv st σ n nc ns := by
  unfold ia_un at h
  intro H locs ws tys ls l' vst hl hL hSt hK hP hD hS hn hR hx h1 h2
  split at h
  · rename_i a t
    obtain ⟨_, vt, rfl, ⟨x, rfl, x1, x2⟩, g3⟩ := hSt
    refine rule x _ _ _ _ ?_
    split at h
    · rename_i ha
      rw [ia_pi_eq] at h
      refine ihk _ _ _ _ _ _ _ h H locs ws tys ls l' _ hl hL ⟨_, _, rfl, ?_, g3⟩ hK hP hD hS hn hR hx h1 h2
      rw [← ia_one (ia_beq ha) x1 x2, ← hf]
      exact ia_v_one _ _ _
    · rw [ia_nx_eq] at h
      exact ihk _ _ _ _ _ _ _ h H locs ws tys ls l' _ hl hL ⟨_, _, rfl, ia_v_all _ _ _, g3⟩ hK hP hD hS hn hR hx h1 h2
  · cases h
/-- branches -/
theorem ia_ltb_ok {a b : Nat × Nat} {x z : Int32} {r : Bool} (h : ia_ltb a b = some r) (x1 : a.1 ≤ ia_E x) (x2 : ia_E x ≤ a.2) (z1 : b.1 ≤ ia_E z) (z2 : ia_E z ≤ b.2) : (r = true → x < z) ∧ (r = false → ¬ x < z) := by
  unfold ia_ltb at h
  rw [ia_lt]
  split at h
  · rename_i q
    cases h
    have := ia_blt q
    exact ⟨fun _ => by omega, fun q => by cases q⟩
  · split at h
    · rename_i q
      cases h
      have := ia_ble q
      exact ⟨fun q => (by cases q), fun _ => by omega⟩
    · cases h
theorem ia_eqb_ok {a b : Nat × Nat} {x z : Int32} {r : Bool} (h : ia_eqb a b = some r) (x1 : a.1 ≤ ia_E x) (x2 : ia_E x ≤ a.2) (z1 : b.1 ≤ ia_E z) (z2 : ia_E z ≤ b.2) : (r = true → x = z) ∧ (r = false → ¬ x = z) := by
  unfold ia_eqb at h
  rw [ia_eq]
  split at h
  · rename_i q
    cases h
    have := ia_blt q
    exact ⟨fun q => (by cases q), fun _ => by omega⟩
  · split at h
    · rename_i q
      cases h
      have := ia_blt q
      exact ⟨fun q => (by cases q), fun _ => by omega⟩
    · split at h
      · rename_i q1
        split at h
        · rename_i q2
          split at h
          · rename_i q3
            cases h
            have := ia_beq q1
            have := ia_beq q2
            have := ia_beq q3
            exact ⟨fun _ => by omega, fun q => by cases q⟩
          · cases h
        · cases h
      · cases h
theorem ia_not_ok {q : Option Bool} {r : Bool} (h : ia_not q = some r) : q = some (!r) := by
  unfold ia_not at h
  split at h <;> cases h <;> rfl
theorem ia_jmp_ok {o : Int} (ihk : ia_IH p l e R s m args below meth c Q D sa A as0 nL y ih out) (h : ia_jmp o ih pc lv st σ n nc ns = some out) : ∃ t : Nat, (pc : Int) + o = (t : Int) ∧ ia_WW p l e R s m args below meth c Q D sa A as0 nL y t lv st σ n nc ns := by
  unfold ia_jmp at h
  split at h
  · rename_i t ht
    rw [ia_nx_eq] at h
    exact ⟨t, ht, ihk _ _ _ _ _ _ _ h⟩
  · cases h
theorem ia_br_ok {o : Int} {r : Option Bool} (ihk : ia_IH p l e R s m args below meth c Q D sa A as0 nL y ih out) (h : ia_br r o ih pc lv st σ n nc ns = some out) : ∃ t : Nat, (pc : Int) + o = (t : Int) ∧ ((r = some true ∧ ia_WW p l e R s m args below meth c Q D sa A as0 nL y t lv st σ n nc ns) ∨ (r = some false ∧ ia_WW p l e R s m args below meth c Q D sa A as0 nL y (pc + 3) lv st σ n nc ns)) := by
  unfold ia_br at h
  split at h
  · rename_i t ht
    refine ⟨t, ht, ?_⟩
    split at h
    · rw [ia_nx_eq] at h
      exact Or.inl ⟨rfl, ihk _ _ _ _ _ _ _ h⟩
    · rw [ia_nx_eq] at h
      exact Or.inr ⟨rfl, ihk _ _ _ _ _ _ _ h⟩
    · cases h
  · cases h
def ia_rel (c : ClassFile.Cond) (x z : Int32) : Prop := match c with
  | .eq => x = z
  | .ne => ¬ x = z
  | .lt => x < z
  | .ge => z ≤ x
  | .gt => z < x
  | .le => x ≤ z
theorem ia_cmp_ok {cc : ClassFile.Cond} {a b : Nat × Nat} {x z : Int32} {r : Bool} (h : ia_cmp cc a b = some r) (x1 : a.1 ≤ ia_E x) (x2 : ia_E x ≤ a.2) (z1 : b.1 ≤ ia_E z) (z2 : ia_E z ≤ b.2) : (r = true → ia_rel cc x z) ∧ (r = false → ¬ ia_rel cc x z) := by
  have nle : ∀ u v : Int32, ¬ u < v → v ≤ u := fun u v q => by rw [ia_lt] at q; rw [ia_le]; omega
  have nlt : ∀ u v : Int32, u < v → ¬ v ≤ u := fun u v q => by rw [ia_lt] at q; rw [ia_le]; omega
  cases cc
  · exact ia_eqb_ok h x1 x2 z1 z2
  · have g := ia_eqb_ok (ia_not_ok h) x1 x2 z1 z2
    exact ⟨fun e => g.2 (by rw [e]; rfl), fun e q => q (g.1 (by rw [e]; rfl))⟩
  · exact ia_ltb_ok h x1 x2 z1 z2
  · have g := ia_ltb_ok (ia_not_ok h) x1 x2 z1 z2
    exact ⟨fun e => nle _ _ (g.2 (by rw [e]; rfl)), fun e => nlt _ _ (g.1 (by rw [e]; rfl))⟩
  · exact ia_ltb_ok h z1 z2 x1 x2
  · have g := ia_ltb_ok (ia_not_ok h) z1 z2 x1 x2
    exact ⟨fun e => nle _ _ (g.2 (by rw [e]; rfl)), fun e => nlt _ _ (g.1 (by rw [e]; rfl))⟩
end IAS

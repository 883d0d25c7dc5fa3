/-! ## the checker is right: first steps -/
def cm_X (C : Nat → List cm_V → cm_W → cm_O → Prop) (y pc : Nat) (lv : cm_L) (st : List cm_V) (w : cm_W) (Q : cm_O → Prop) : Prop := ∃ F o, cm_R C y F pc lv st w o ∧ Q o
section SVE
variable {C : Nat → List cm_V → cm_W → cm_O → Prop} {y pc : Nat} {lv : cm_L} {st : List cm_V} {w : cm_W} {Q : cm_O → Prop} {ins : Instr} {len : Nat}
theorem cm_X_do {q : cm_A} (hd : decode (ia_code y) pc = .ok (ins, len)) (hq : cm_do y pc ins len lv st w = some q) (h : cm_X C y q.1 q.2.1 q.2.2.1 q.2.2.2 Q) : cm_X C y pc lv st w Q := by
  obtain ⟨F, o, h1, h2⟩ := h
  exact ⟨F + 1, o, ⟨ins, len, hd, Or.inl ⟨q, hq, h1⟩⟩, h2⟩
theorem cm_X_call {y2 : Nat} {as t : List cm_V} {r : Option cm_V} {w' : cm_W} (hd : decode (ia_code y) pc = .ok (ins, len)) (hq : cm_call y ins len st = some (y2, as, t)) (hc : C y2 as w (r, w')) (h : cm_X C y (pc + 3) lv (cm_back r t) w' Q) : cm_X C y pc lv st w Q := by
  obtain ⟨F, o, h1, h2⟩ := h
  exact ⟨F + 1, o, ⟨ins, len, hd, Or.inr (Or.inl ⟨y2, as, t, r, w', hq, hc, h1⟩)⟩, h2⟩
theorem cm_X_ret {r : Option cm_V} (hd : decode (ia_code y) pc = .ok (ins, len)) (hq : cm_ret y ins len st = some r) (h : Q (r, w)) : cm_X C y pc lv st w Q := ⟨1, (r, w), ⟨ins, len, hd, Or.inr (Or.inr ⟨r, hq, rfl⟩)⟩, h⟩
theorem cm_R_mono {C' : Nat → List cm_V → cm_W → cm_O → Prop} (hC : ∀ y as w o, C y as w o → C' y as w o) {o : cm_O} : ∀ (F pc : Nat) (lv : cm_L) (st : List cm_V) (w : cm_W), cm_R C y F pc lv st w o → cm_R C' y F pc lv st w o
  | 0, _, _, _, _, h => h.elim
  | F + 1, pc, lv, st, w, h => by
    obtain ⟨ins, len, hd, h⟩ := h
    refine ⟨ins, len, hd, ?_⟩
    rcases h with ⟨q, hq, h⟩ | ⟨y2, as, t, r, w', hq, hc, h⟩ | h
    · exact Or.inl ⟨q, hq, cm_R_mono hC F _ _ _ _ h⟩
    · exact Or.inr (Or.inl ⟨y2, as, t, r, w', hq, hC _ _ _ _ hc, cm_R_mono hC F _ _ _ _ h⟩)
    · exact Or.inr (Or.inr h)
theorem cm_C_succ : ∀ (d y : Nat) (as : List cm_V) (w : cm_W) (o : cm_O), cm_C d y as w o → cm_C (d + 1) y as w o
  | 0, _, _, _, _, h => h.elim
  | d + 1, y, as, w, o, h => by
    rcases h with h | ⟨hs, F, h⟩
    · exact Or.inl h
    · exact Or.inr ⟨hs, F, cm_R_mono (cm_C_succ d) F _ _ _ _ h⟩
theorem cm_C_mono {d d' : Nat} (hd : d ≤ d') {as : List cm_V} {o : cm_O} (h : cm_C d y as w o) : cm_C d' y as w o := by
  obtain ⟨k, rfl⟩ := Nat.le.dest hd
  clear hd
  induction k with
  | zero => exact h
  | succ k ih => exact cm_C_succ _ _ _ _ _ ih
end SVE
/-! ### lists -/
def sv_all2 {α β : Type} (P : α → β → Prop) : List α → List β → Prop
  | [], [] => True
  | a :: l, b :: m => P a b ∧ sv_all2 P l m
  | _, _ => False
section SVL
variable {α β γ : Type} {P : α → β → Prop}
theorem sv_a2_at : ∀ {l : List α} {m : List β} {i : Nat} {a : α}, sv_all2 P l m → ia_at l i = some a → ∃ b, ia_at m i = some b ∧ P a b
  | [], [], _, _, _, h => by cases h
  | a :: l, b :: m, 0, a', h, e => by cases e; exact ⟨b, rfl, h.1⟩
  | a :: l, b :: m, i + 1, a', h, e => sv_a2_at (l := l) (m := m) (i := i) h.2 e
  | [], b :: m, _, _, h, _ => h.elim
  | a :: l, [], _, _, h, _ => h.elim
theorem sv_a2_at' : ∀ {l : List α} {m : List β} {i : Nat} {b : β}, sv_all2 P l m → ia_at m i = some b → ∃ a, ia_at l i = some a ∧ P a b
  | [], [], _, _, _, h => by cases h
  | a :: l, b :: m, 0, b', h, e => by cases e; exact ⟨a, rfl, h.1⟩
  | a :: l, b :: m, i + 1, b', h, e => sv_a2_at' (l := l) (m := m) (i := i) h.2 e
  | [], b :: m, _, _, h, _ => h.elim
  | a :: l, [], _, _, h, _ => h.elim
theorem sv_a2_set : ∀ {l : List α} {m : List β} (i : Nat) {a : α} {b : β}, sv_all2 P l m → P a b → sv_all2 P (l.set i a) (m.set i b)
  | [], [], _, _, _, h, _ => h
  | a :: l, b :: m, 0, a', b', h, e => ⟨e, h.2⟩
  | a :: l, b :: m, i + 1, a', b', h, e => ⟨h.1, sv_a2_set i h.2 e⟩
  | [], b :: m, _, _, _, h, _ => h.elim
  | a :: l, [], _, _, _, h, _ => h.elim
theorem sv_a2_mono {P' : α → β → Prop} (hP : ∀ a b, P a b → P' a b) : ∀ {l : List α} {m : List β}, sv_all2 P l m → sv_all2 P' l m
  | [], [], h => h
  | a :: l, b :: m, h => ⟨hP _ _ h.1, sv_a2_mono hP h.2⟩
  | [], b :: m, h => h.elim
  | a :: l, [], h => h.elim
theorem sv_a2_len : ∀ {l : List α} {m : List β}, sv_all2 P l m → l.length = m.length
  | [], [], h => rfl
  | a :: l, b :: m, h => congrArg Nat.succ (sv_a2_len h.2)
  | [], b :: m, h => h.elim
  | a :: l, [], h => h.elim
theorem sv_a2_app : ∀ {l l' : List α} {m m' : List β}, sv_all2 P l m → sv_all2 P l' m' → sv_all2 P (l ++ l') (m ++ m')
  | [], _, [], _, _, h => h
  | a :: l, _, b :: m, _, h, h' => ⟨h.1, sv_a2_app h.2 h'⟩
  | [], _, b :: m, _, h, _ => h.elim
  | a :: l, _, [], _, h, _ => h.elim
theorem sv_a2_rep {a : α} {b : β} (h : P a b) : ∀ n, sv_all2 P (List.replicate n a) (List.replicate n b)
  | 0 => trivial
  | n + 1 => ⟨h, sv_a2_rep h n⟩
theorem sv_a2_tr {P' : γ → β → Prop} {R : α → γ → Prop} (hR : ∀ a c b, R a c → P a b → P' c b) : ∀ {l : List α} {l' : List γ} {m : List β}, sv_all2 R l l' → sv_all2 P l m → sv_all2 P' l' m
  | [], [], [], _, h => h
  | a :: l, c :: l', b :: m, h, h' => ⟨hR _ _ _ h.1 h'.1, sv_a2_tr hR h.2 h'.2⟩
  | [], c :: l', _, h, _ => h.elim
  | a :: l, [], _, h, _ => h.elim
  | [], [], b :: m, _, h => h.elim
  | a :: l, c :: l', [], _, h => h.elim
theorem sv_mapK_ok {f : α → (α → Bool) → Bool} {R : α → α → Prop} (hf : ∀ a k, f a k = true → ∃ a', R a a' ∧ k a' = true) : ∀ (l : List α) (k : List α → Bool), sv_mapK f l k = true → ∃ l', sv_all2 R l l' ∧ k l' = true
  | [], k, h => ⟨[], trivial, h⟩
  | a :: l, k, h => by
    obtain ⟨a', h1, h2⟩ := hf a _ h
    obtain ⟨l', h3, h4⟩ := sv_mapK_ok hf l _ h2
    exact ⟨a' :: l', ⟨h1, h3⟩, h4⟩
theorem sv_allb_ok {f : α → Bool} : ∀ {l : List α}, sv_allb f l = true → ∀ a ∈ l, f a = true
  | [], _, a, h => by cases h
  | b :: l, h, a, ha => by
    have h' : cond (f b) (sv_allb f l) false = true := h
    cases hb : f b with
    | false => rw [hb] at h'; cases h'
    | true =>
      rw [hb] at h'
      rcases List.mem_cons.mp ha with rfl | ha
      · exact hb
      · exact sv_allb_ok h' a ha
theorem sv_anyb_ok {f : α → Bool} : ∀ {l : List α}, sv_anyb f l = true → ∃ a ∈ l, f a = true
  | [], h => by cases h
  | b :: l, h => by
    have h' : cond (f b) true (sv_anyb f l) = true := h
    cases hb : f b with
    | true => exact ⟨b, List.mem_cons_self, hb⟩
    | false =>
      rw [hb] at h'
      obtain ⟨a, h1, h2⟩ := sv_anyb_ok h'
      exact ⟨a, List.mem_cons_of_mem _ h1, h2⟩
theorem sv_anyb_of {f : α → Bool} : ∀ {l : List α} {a : α}, a ∈ l → f a = true → sv_anyb f l = true
  | b :: l, a, ha, h => by
    show cond (f b) true (sv_anyb f l) = true
    cases hb : f b with
    | true => rfl
    | false =>
      rcases List.mem_cons.mp ha with rfl | ha
      · rw [hb] at h; cases h
      · exact sv_anyb_of ha h
theorem sv_all_ok {f : α → β → Bool} : ∀ {l : List α} {m : List β}, sv_all f l m = true → sv_all2 (fun a b => f a b = true) l m
  | [], [], _ => trivial
  | [], b :: m, h => by cases h
  | a :: l, [], h => by cases h
  | a :: l, b :: m, h => by
    have h' : cond (f a b) (sv_all f l m) false = true := h
    cases hb : f a b with
    | false => rw [hb] at h'; cases h'
    | true => rw [hb] at h'; exact ⟨hb, sv_all_ok h'⟩
end SVL
theorem sv_cnd {b x y : Bool} (h : cond b x y = true) : (b = true ∧ x = true) ∨ (b = false ∧ y = true) := by
  cases b
  · exact Or.inr ⟨rfl, h⟩
  · exact Or.inl ⟨rfl, h⟩
/-! ### what the words mean -/
def sv_i (Re Rh : Nat) (a : sv_I) (x : Int32) : Prop := sv_in (a.1, a.2.1) x ∧ (a.2.2.1 = 0 ∨ Re + a.2.2.1 ≤ ia_E x + 1) ∧ (a.2.2.2.1 = 0 ∨ Rh + a.2.2.2.1 ≤ ia_E x + 1)
def sv_vr (Re Rh : Nat) (O : Nat → Int32 → Prop) (v : sv_V) (c : cm_V) : Prop := match v, c with
  | .inl a, .inl x => sv_i Re Rh a x ∧ (a.2.2.2.2 = 0 ∨ O a.2.2.2.2 x)
  | .inr none, .inr (.inl _) => True
  | .inr (some k), .inr (.inr (some j)) => j = k
  | _, _ => False
def sv_ov (P : sv_V → cm_V → Prop) (v : Option sv_V) (c : Option cm_V) : Prop := match v, c with
  | some v, some c => P v c
  | none, some (.inr (.inl _)) => False
  | none, _ => True
  | some _, none => False
def sv_at (w : cm_W) (q : Nat) : Int32 := w.1 (q / 16384) (q % 16384)
def sv_os (w : cm_W) (og : Nat) (x : Int32) : Prop := ∃ q, og = 2 * q + 2 ∧ sv_at w q = x
def sv_ol (lv : cm_L) (og : Nat) (x : Int32) : Prop := ∃ j, og = 2 * j + 1 ∧ ia_at lv j = some (some (.inl x))
def sv_f1 (Re Rh : Nat) (w : cm_W) (f : Nat × Nat × Nat × Nat × Nat) : Prop := sv_i Re Rh (f.2.1, f.2.2.1, f.2.2.2.1, f.2.2.2.2, 0) (sv_at w f.1)
def sv_fs (Re Rh : Nat) (fs : sv_F) (w : cm_W) : Prop := ∀ f ∈ fs, sv_f1 Re Rh w f
def sv_w (G : sv_GT) (w : cm_W) : Prop := ∀ k i, sv_in (sv_g G k i) (w.1 k i)
def sv_hit (W : sv_WR) (k i : Nat) : Prop := ∃ r ∈ W, r.1 = k ∧ r.2.1 ≤ i ∧ i ≤ r.2.2
def sv_fr (W : sv_WR) (w0 w : cm_W) : Prop := ∀ k i, ¬ sv_hit W k i → w.1 k i = w0.1 k i ∧ w.2 k i = w0.2 k i
def sv_pa (na : Nat) (lv0 lv : cm_L) : Prop := ∀ j, j < na → ia_at lv j = ia_at lv0 j
def sv_St (G : sv_GT) (W : sv_WR) (na Re Rh : Nat) (lv0 : cm_L) (w0 : cm_W) (lv : sv_L) (st : List sv_V) (fs : sv_F) (clv : cm_L) (cst : List cm_V) (w : cm_W) : Prop := sv_all2 (sv_ov (sv_vr Re Rh (sv_os w))) lv clv ∧ sv_all2 (sv_vr Re Rh (fun og x => sv_os w og x ∨ sv_ol clv og x)) st cst ∧ sv_fs Re Rh fs w ∧ sv_w G w ∧ sv_fr W w0 w ∧ sv_pa na lv0 clv
/-- bounds alone -/
def sv_v0 (v : sv_V) (c : cm_V) : Prop := match v, c with
  | .inl a, .inl x => sv_in (a.1, a.2.1) x
  | .inr none, .inr (.inl _) => True
  | .inr (some k), .inr (.inr (some j)) => j = k
  | _, _ => False
def sv_r0 (v : Option sv_V) (c : Option cm_V) : Prop := match v, c with
  | some v, some c => sv_v0 v c
  | none, none => True
  | _, _ => False
/-- the first ones are so -/
def sv_pre : List sv_V → List cm_V → Prop
  | [], _ => True
  | v :: l, c :: m => sv_v0 v c ∧ sv_pre l m
  | _ :: _, [] => False
def sv_Q (G : sv_GT) (s : sv_SM) (as : List cm_V) (w : cm_W) (o : cm_O) : Prop := sv_w G o.2 ∧ sv_fr s.2.2.2.2.2.1 w o.2 ∧ ∃ q ∈ s.2.2.2.2.2.2, sv_r0 q.1 o.1 ∧ sv_pre q.2.1 as ∧ sv_fs (ia_E (sv_at w s.2.2.1)) 0 (q.2.2.map (fun f => (f.1, f.2.1, f.2.2.1, f.2.2.2.1, 0))) o.2
/-- a summary holds -/
def sv_valid (G : sv_GT) (s : sv_SM) : Prop := ∀ (as : List cm_V) (w : cm_W), sv_all2 sv_v0 s.2.2.2.1 as → sv_fs (ia_E (sv_at w s.2.2.1)) 0 s.2.2.2.2.1 w → sv_w G w → ∃ o, cm_C s.2.1 s.1 as w o ∧ sv_Q G s as w o

/-! ## what a known value, cell, world says of the machine's -/
def ia_v (sa : Nat × Nat) (ad : List Nat) (a : ia_V) (v : Value) : Prop := match a with
  | .inl q => ∃ x : Int32, v = .int x ∧ q.1 ≤ ia_E x ∧ ia_E x ≤ q.2
  | .inr (.inl n) => v = .long (Int64.ofNat n)
  | .inr (.inr (.inl none)) => v = .null
  | .inr (.inr (.inl (some k))) => ∃ b, ad[k]? = some b ∧ v = .ref b
  | .inr (.inr (.inr 0)) => v = .ref sa.1
  | .inr (.inr (.inr 1)) => v = .ref sa.2
  | .inr (.inr (.inr (_ + 2))) => v = .null ∨ ∃ b, v = .ref b
def ia_co (sa : Nat × Nat) (ad : List Nat) (c : ia_C) (e : va_E) : Prop := ∃ vs : List Value, e = .inr (c.1, vs) ∧ ∀ (k : Nat) (a : ia_V), ia_get2 c.2.2 k = some a → ∃ v, vs[k]? = some v ∧ ia_v sa ad a v
def ia_ci (sa : Nat × Nat) (ad : List Nat) (tys : List (ClassId × FieldType)) (ty : FieldType) (c : ia_C) (e : va_E) : Prop := ∃ (cA : ClassId) (f : Nat → Int32), e = .inl (cA, c.2.1, .inl f) ∧ (cA, ty) ∈ tys ∧ ∀ (k : Nat) (a : ia_V), ia_get2 c.2.2 k = some a → k < c.2.1 → ia_v sa ad a (.int (f k))
def ia_cj (sa : Nat × Nat) (ad : List Nat) (tys : List (ClassId × FieldType)) (c : ia_C) (e : va_E) : Prop := ∃ (cA : ClassId) (f : Nat → Int64), e = .inl (cA, c.2.1, .inr (.inl f)) ∧ (cA, .long) ∈ tys ∧ ∀ (k : Nat) (a : ia_V), ia_get2 c.2.2 k = some a → k < c.2.1 → ia_v sa ad a (.long (f k))
def ia_cr (sa : Nat × Nat) (ad : List Nat) (tys : List (ClassId × FieldType)) (C : String) (c : ia_C) (e : va_E) : Prop := ∃ (cA : ClassId) (f : Nat → Option Nat), e = .inl (cA, c.2.1, .inr (.inr (.inr (.inr f)))) ∧ (cA, .object C) ∈ tys ∧ ∀ (k : Nat) (a : ia_V), ia_get2 c.2.2 k = some a → k < c.2.1 → ia_v sa ad a (va_rf (f k))
def ia_c (sa : Nat × Nat) (ad : List Nat) (tys : List (ClassId × FieldType)) (c : ia_C) (e : va_E) : Prop :=
  (c.1 < 50 → ia_co sa ad c e) ∧ (c.1 = 50 → ia_ci sa ad tys .int c e) ∧ (c.1 = 51 → ia_cj sa ad tys c e) ∧ (c.1 = 52 → ia_ci sa ad tys .byte c e) ∧ (c.1 = 53 → ia_ci sa ad tys .boolean c e) ∧ (c.1 = 54 → ia_cr sa ad tys RX3 c e) ∧ (c.1 = 55 → ia_cr sa ad tys RX7 c e)
def ia_R (sa : Nat × Nat) (tys : List (ClassId × FieldType)) (σ : ia_H) (ws : va_W) : Prop := ∀ (k : Nat) (c : ia_C), ia_get2 σ k = some c → c.1 ≠ 99 → ∃ q, ws[k]? = some q ∧ ia_c sa (ws.map Prod.fst) tys c q.2
def ia_L (sa : Nat × Nat) (ad : List Nat) (lv : List (Option ia_V)) (l : List (Nat × Value)) : Prop := ∀ (i : Nat) (a : ia_V), lv[i]? = some (some a) → ∃ v, (i, v) ∈ l ∧ ia_v sa ad a v
def ia_S (sa : Nat × Nat) (ad : List Nat) : List ia_V → List Value → Prop
  | [], vs => vs = []
  | a :: st, vs => ∃ v t, vs = v :: t ∧ ia_v sa ad a v ∧ ia_S sa ad st t
theorem ia_v.mono {sa : Nat × Nat} {ad ad' : List Nat} {a : ia_V} {v : Value} (hm : ∀ (k b : Nat), ad[k]? = some b → ad'[k]? = some b) (h : ia_v sa ad a v) : ia_v sa ad' a v := by
  rcases a with q | n | (_ | k) | (_ | _ | u)
  · exact h
  · exact h
  · exact h
  · obtain ⟨b, h1, h2⟩ := h
    exact ⟨b, hm k b h1, h2⟩
  · exact h
  · exact h
  · exact h
theorem ia_c.mono {sa : Nat × Nat} {ad ad' : List Nat} {tys tys' : List (ClassId × FieldType)} {c : ia_C} {e : va_E} (hm : ∀ (k b : Nat), ad[k]? = some b → ad'[k]? = some b) (ht : ∀ q ∈ tys, q ∈ tys') (h : ia_c sa ad tys c e) : ia_c sa ad' tys' c e := by
  obtain ⟨h0, h1, h2, h3, h4, h5, h6⟩ := h
  have g1 : ∀ ty, ia_ci sa ad tys ty c e → ia_ci sa ad' tys' ty c e := fun ty ⟨cA, f, a1, a2, a3⟩ => ⟨cA, f, a1, ht _ a2, fun k a hk hlt => (a3 k a hk hlt).mono hm⟩
  have g2 : ∀ C, ia_cr sa ad tys C c e → ia_cr sa ad' tys' C c e := fun C ⟨cA, f, a1, a2, a3⟩ => ⟨cA, f, a1, ht _ a2, fun k a hk hlt => (a3 k a hk hlt).mono hm⟩
  refine ⟨fun z => ?_, fun z => g1 _ (h1 z), fun z => ?_, fun z => g1 _ (h3 z), fun z => g1 _ (h4 z), fun z => g2 _ (h5 z), fun z => g2 _ (h6 z)⟩
  · obtain ⟨vs, a1, a2⟩ := h0 z
    exact ⟨vs, a1, fun k a hk => by obtain ⟨v, b1, b2⟩ := a2 k a hk; exact ⟨v, b1, b2.mono hm⟩⟩
  · obtain ⟨cA, f, a1, a2, a3⟩ := h2 z
    exact ⟨cA, f, a1, ht _ a2, fun k a hk hlt => (a3 k a hk hlt).mono hm⟩
theorem ia_L.mono {sa : Nat × Nat} {ad ad' : List Nat} {lv : List (Option ia_V)} {l : List (Nat × Value)} (hm : ∀ (k b : Nat), ad[k]? = some b → ad'[k]? = some b) (h : ia_L sa ad lv l) : ia_L sa ad' lv l := fun i a ha => by
  obtain ⟨v, h1, h2⟩ := h i a ha
  exact ⟨v, h1, h2.mono hm⟩
theorem ia_S.mono {sa : Nat × Nat} {ad ad' : List Nat} (hm : ∀ (k b : Nat), ad[k]? = some b → ad'[k]? = some b) : ∀ {st : List ia_V} {vs : List Value}, ia_S sa ad st vs → ia_S sa ad' st vs
  | [], _, h => h
  | _ :: _, _, ⟨v, t, h1, h2, h3⟩ => ⟨v, t, h1, h2.mono hm, ia_S.mono hm h3⟩
/-- the cell at a place -/
theorem ia_R.at {sa : Nat × Nat} {tys : List (ClassId × FieldType)} {σ : ia_H} {ws : va_W} {k b : Nat} {c : ia_C} (h : ia_R sa tys σ ws) (hc : ia_get2 σ k = some c) (hn : c.1 ≠ 99) (hb : (ws.map Prod.fst)[k]? = some b) : ∃ e, ws[k]? = some (b, e) ∧ ia_c sa (ws.map Prod.fst) tys c e := by
  obtain ⟨⟨q, e⟩, h1, h2⟩ := h k c hc hn
  rw [List.getElem?_map, h1] at hb
  cases hb
  exact ⟨e, h1, h2⟩
theorem ia_fst_set {ws : va_W} {k b : Nat} {e0 e : va_E} (h : ws[k]? = some (b, e0)) : (ws.set k (b, e)).map Prod.fst = ws.map Prod.fst := by
  apply List.ext_getElem?
  intro i
  rw [List.getElem?_map, List.getElem?_map, List.getElem?_set]
  have hl : k < ws.length := (List.getElem?_eq_some_iff.mp h).1
  by_cases hi : k = i
  · subst hi
    rw [if_pos rfl, if_pos hl, h]
    rfl
  · rw [if_neg hi]
theorem ia_R.set {sa : Nat × Nat} {tys : List (ClassId × FieldType)} {σ : ia_H} {ws : va_W} {k b : Nat} {c : ia_C} {e0 e : va_E} (h : ia_R sa tys σ ws) (hk : ws[k]? = some (b, e0)) (he : ia_c sa (ws.map Prod.fst) tys c e) : ia_R sa tys (ia_set2 σ k c) (ws.set k (b, e)) := by
  have hl : k < ws.length := (List.getElem?_eq_some_iff.mp hk).1
  intro j c' hj hn
  rw [ia_fst_set hk]
  rcases ia_get2_set hj with ⟨rfl, rfl⟩ | ⟨hjk, hj'⟩
  · exact ⟨(b, e), List.getElem?_set_self hl, he⟩
  · obtain ⟨q, h1, h2⟩ := h j c' hj' hn
    exact ⟨q, by rw [List.getElem?_set_ne (fun z => hjk z.symm)]; exact h1, h2⟩
theorem ia_app_mono {ad : List Nat} {x : List Nat} : ∀ (k b : Nat), ad[k]? = some b → (ad ++ x)[k]? = some b := fun k b h => by
  rw [List.getElem?_append_left (List.getElem?_eq_some_iff.mp h).1]
  exact h
theorem ia_fst_app (ws : va_W) (q : Nat × va_E) : (ws ++ [q]).map Prod.fst = ws.map Prod.fst ++ [q.1] := by rw [List.map_append]; rfl
theorem ia_R.push {sa : Nat × Nat} {n : Nat} {tys tys' : List (ClassId × FieldType)} {σ : ia_H} {ws : va_W} {q : Nat × va_E} {c : ia_C} (h : ia_R sa tys σ ws) (hn : ws.length = n) (ht : ∀ z ∈ tys, z ∈ tys') (he : ia_c sa ((ws ++ [q]).map Prod.fst) tys' c q.2) : ia_R sa tys' (ia_set2 σ n c) (ws ++ [q]) := by
  intro j c' hj hc
  rcases ia_get2_set hj with ⟨rfl, rfl⟩ | ⟨hjk, hj'⟩
  · refine ⟨q, ?_, he⟩
    rw [List.getElem?_append_right (by omega), hn, Nat.sub_self]
    rfl
  · obtain ⟨q', h1, h2⟩ := h j c' hj' hc
    refine ⟨q', by rw [List.getElem?_append_left (List.getElem?_eq_some_iff.mp h1).1]; exact h1, h2.mono ?_ ht⟩
    rw [ia_fst_app]
    exact ia_app_mono
theorem ia_if_eq {α : Type} {b : Bool} {x : Option α} {o : α} (h : ia_if b x = some o) : b = true ∧ x = some o := by
  cases b
  · cases h
  · exact ⟨rfl, h⟩
theorem ia_beq {a b : Nat} (h : Nat.beq a b = true) : a = b := Nat.eq_of_beq_eq_true h
theorem ia_ble {a b : Nat} (h : Nat.ble a b = true) : a ≤ b := Nat.le_of_ble_eq_true h
theorem ia_blt {a b : Nat} (h : Nat.blt a b = true) : a < b := Nat.le_of_ble_eq_true h
theorem ia_nblt {a b : Nat} (h : Nat.blt a b = false) : b ≤ a := Nat.not_lt.mp (fun z => by
  have : Nat.blt a b = true := Nat.ble_eq_true_of_le z
  rw [h] at this; cases this)
theorem ia_one {lo hi : Nat} {x : Int32} (h : lo = hi) (h1 : lo ≤ ia_E x) (h2 : ia_E x ≤ hi) : ia_E x = lo := by omega
theorem ia_vcat {sa : Nat × Nat} {ad : List Nat} {a : ia_V} {v : Value} (h : ia_v sa ad a v) : v.category = ia_cat a := by
  rcases a with q | n | (_ | k) | (_ | _ | u)
  · obtain ⟨x, rfl, -⟩ := h; rfl
  · cases h; rfl
  · cases h; rfl
  · obtain ⟨b, -, rfl⟩ := h; rfl
  · cases h; rfl
  · cases h; rfl
  · rcases h with rfl | ⟨b, rfl⟩ <;> rfl
theorem ia_Ssz {sa : Nat × Nat} {ad : List Nat} : ∀ {st : List ia_V} {vs : List Value}, ia_S sa ad st vs → (vs.map fun v => v.category).sum = ia_sz st
  | [], _, h => by cases h; rfl
  | a :: st, _, ⟨v, t, h1, h2, h3⟩ => by
    subst h1
    rw [List.map_cons, List.sum_cons, ia_vcat h2, ia_Ssz h3]
    rfl

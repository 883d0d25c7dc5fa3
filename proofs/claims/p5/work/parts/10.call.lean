/-! ## constants, copies, calls, returns -/
section IAC
variable {p : Program} {l : Launch} {e : Env} {R : Room} {s : State} {m : MethodId} {args : Array Value} {below : List Frame} {meth : Method} {c : Code} {Q : State → Prop}
variable {D : va_G} {sa : Nat × Nat} {A : Nat → Prop} {as0 : List Nat} {nL y pc : Nat} {lv : List (Option ia_V)} {st : List ia_V} {σ : ia_H} {n nc ns : Nat} {ih : ia_K} {out : ia_O} {i d : Nat}
theorem ia_ok10 {c i a b k p : Nat} (h : ia_okI c (i, 10, a, b, k, p) = true) : c = 5 ∧ i = 19 := by
  have h' : (Nat.beq c 5 && Nat.beq i 19) = true := h
  rw [Bool.and_eq_true] at h'
  exact ⟨ia_beq h'.1, ia_beq h'.2⟩
theorem ia_s_cst (X : ia_X p R s m args meth c y d) (N : ia_N sa A s s.heap) {ins : Instr} {len : Nat} (hdg : decode (ia_code y) pc = .ok (ins, len)) (hk : (len = 2 ∧ ins = .ldc i) ∨ (len = 3 ∧ ins = .ldc_w i)) (ihk : ia_IH p l e R s m args below meth c Q D sa A as0 nL y ih out) (h : ia_cst y i len ih pc lv st σ n nc ns = some out) : ia_WW p l e R s m args below meth c Q D sa A as0 nL y pc lv st σ n nc ns := by
  obtain ⟨hx, hb, hml, hown, hts, -⟩ := id X
  unfold ia_cst at h
  split at h
  · rename_i v z1 z2 z3 hpl
    obtain ⟨hc, hE⟩ := ia_ok8 (ia_pl_ok hpl)
    rw [ia_nx_eq] at h
    refine ia_g_push (a := .inl (v, v)) (v := .int (ia_D v)) (fun ad => ⟨_, rfl, by rw [hE]; exact Nat.le_refl _, by rw [hE]; exact Nat.le_refl _⟩) (fun H locs ls vst k => ?_) (ihk _ _ _ _ _ _ _ h)
    rcases hk with ⟨rfl, rfl⟩ | ⟨rfl, rfl⟩
    · exact lv_ldc hx hb hown (X.hts hc) hdg k
    · exact lv_ldcw hx hb hown (X.hts hc) hdg k
  · rename_i z0 z1 z2 z3 hpl
    obtain ⟨hc5, rfl⟩ := ia_ok10 (ia_pl_ok hpl)
    obtain ⟨hq, h⟩ := ia_if_eq h
    have hlen := ia_beq hq
    rw [ia_nx_eq] at h
    refine ia_g_push (a := .inr (.inr (.inr 0))) (v := .ref sa.1) (fun ad => rfl) (fun H locs ls vst k => ?_) (ihk _ _ _ _ _ _ _ h)
    rcases hk with ⟨rfl, rfl⟩ | ⟨h3, rfl⟩
    · rw [hc5] at hown
      exact va_ldcS hx hb hown N.2.2.2.1 hdg k
    · omega
  · cases h
theorem ia_s_csl (X : ia_X p R s m args meth c y d) (hdg : decode (ia_code y) pc = .ok (.ldc2_w i, 3)) (ihk : ia_IH p l e R s m args below meth c Q D sa A as0 nL y ih out) (h : ia_csl y i ih pc lv st σ n nc ns = some out) : ia_WW p l e R s m args below meth c Q D sa A as0 nL y pc lv st σ n nc ns := by
  obtain ⟨hx, hb, hml, hown, hts, -⟩ := id X
  unfold ia_csl at h
  split at h
  · rename_i v z1 z2 z3 hpl
    rw [ia_nx_eq] at h
    exact ia_g_push (a := .inr (.inl v)) (v := .long (Int64.ofNat v)) (fun ad => rfl) (fun H locs ls vst k => lv_ldc2 hx hb hown (X.hts (ia_is_in (ia_pl_ok hpl))) hdg k) (ihk _ _ _ _ _ _ _ h)
  · cases h
/-! ### a method's contract, as the run has it -/
noncomputable def ia_rm (d y : Nat) : Room := { frames := d, cells := ia_mc y, slots := ia_ms y, locals := 100 * d }
noncomputable def ia_ws (y : Nat) : List Cond := ia_cw y :: ia_TB
def ia_rr (sa : Nat × Nat) (ad : List Nat) (r : Option ia_V) (ov : Option Value) : Prop := match r, ov with
  | none, none => True
  | some a, some v => ia_v sa ad a v
  | _, _ => False
def ia_P (D : va_G) (sa : Nat × Nat) (tys : List (ClassId × FieldType)) (ws : va_W) (sz : Nat) (vs : List Value) : Array Value → State → Prop := va_Pc vs (fun U => U.heap.size = sz ∧ va_P D vwCl ws U.heap ∧ va_K D vwCl tys U ∧ va_D (fun _ => True) ws ∧ ia_N sa (va_A ws sz) U U.heap)
def ia_Q (D : va_G) (sa : Nat × Nat) (ws0 : va_W) (sz : Nat) (o : ia_O) : Array Value → State → Outcome → State → Prop := fun _ st oc t => (∃ (ov : Option Value) (ws : va_W) (tys : List (ClassId × FieldType)), oc = .returned ov ∧ ia_rr sa (ws.map Prod.fst) o.1 ov ∧ ws.length = o.2.2 ∧ (∃ x, ws.map Prod.fst = ws0.map Prod.fst ++ x) ∧ ia_R sa tys o.2.1 ws ∧ va_P D vwCl ws t.heap ∧ va_K D vwCl tys t ∧ va_D (va_A ws0 sz) ws) ∧ va_F (va_A ws0 sz) st t
def ia_MetsC (call : Nat → List ia_V → ia_H → Nat → Option ia_O) (d : Nat) : Prop := ∀ (y : Nat) (as : List ia_V) (σ : ia_H) (n : Nat) (out : ia_O), call y as σ n = some out → ia_okM y = true → ∀ (l : Launch) (D : va_G) (sa : Nat × Nat) (vs : List Value) (ws : va_W) (tys : List (ClassId × FieldType)) (sz : Nat), ia_S sa (ws.map Prod.fst) as vs → ws.length = n → ia_R sa tys σ ws → Met l (ia_nm y) (ia_ws y) (ia_rm d y) (ia_P D sa tys ws sz vs) (ia_Q D sa ws sz out) (ia_mc y) (ia_ms y) (va_A ws sz)
def ia_Mets (d : Nat) : Prop := ∀ (y : Nat) (as : List ia_V) (σ : ia_H) (n : Nat) (out : ia_O), ia_call d y as σ n = some out → ia_okM y = true → ∀ (l : Launch) (D : va_G) (sa : Nat × Nat) (vs : List Value) (ws : va_W) (tys : List (ClassId × FieldType)) (sz : Nat), ia_S sa (ws.map Prod.fst) as vs → ws.length = n → ia_R sa tys σ ws → Met l (ia_nm y) (ia_ws y) (ia_rm d y) (ia_P D sa tys ws sz vs) (ia_Q D sa ws sz out) (ia_mc y) (ia_ms y) (va_A ws sz)
noncomputable def ia_isN (w : Cond) : Bool := match w with
  | .methodLinkNest .. => true
  | _ => false
set_option maxRecDepth 100000 in
theorem ia_Np_ok : ∀ w ∈ ia_Np, ia_isN (ia_w w) = true := by decide +kernel
theorem ia_nw_warm {w : Cond} {s U : State} (hn : ia_isN w = true) (hW : s.WarmedH U.vm) (h : va_Nw w s) : va_Nw w U := by
  cases w <;> first | exact va_Nw.warmM hW h | cases hn
theorem ia_nw_same {w : Cond} {s U : State} (hn : ia_isN w = true) (hW : s.vm = U.vm) (h : va_Nw w s) : va_Nw w U := by
  cases w <;> first | exact va_Nw.same rfl hW h | cases hn
theorem ia_Ar.moved {nm : String} {li : List Int} {u U : State} {H : Heap} (hvm : u.vm.Alike U.vm) (h : ia_Ar nm li A u H) : ia_Ar nm li A U H := by
  obtain ⟨t, h1, h2⟩ := h
  exact ⟨t, h1.moved hvm, h2.moved hvm⟩
theorem ia_Ar.kept {nm : String} {li : List Int} {U : State} {H H1 : Heap} (hq : ∀ a : Nat, a < H.size → ¬ A a → H1[a]? = H[a]?) (h : ia_Ar nm li A U H) : ia_Ar nm li A U H1 := by
  obtain ⟨t, h1, h2⟩ := h
  exact ⟨t, h1.kept hq, h2.kept hq⟩
theorem ia_Ar.narrow {nm : String} {li : List Int} {U : State} {H : Heap} {B : Nat → Prop} (hAB : ∀ q, B q → A q) (h : ia_Ar nm li A U H) : ia_Ar nm li B U H := by
  obtain ⟨t, h1, h2⟩ := h
  exact ⟨t, h1.narrow hAB, h2.narrow hAB⟩
theorem ia_N.warm {U : State} {H : Heap} (hW : s.WarmedH U.vm) (h : ia_N sa A s H) : ia_N sa A U H := by
  obtain ⟨h1, h2, h3, h4, h5, h6, h7, h8, h9⟩ := h
  exact ⟨fun w hw => ia_nw_warm (ia_Np_ok w hw) hW (h1 w hw), h2.moved hW.alike, h3.moved hW.alike, h4.warm hW, h5.moved hW.alike, h6.moved hW.alike, h7.moved hW.alike, h8.moved hW.alike, h9.moved hW.alike⟩
theorem ia_N.same {U : State} {H : Heap} (hv : s.vm = U.vm) (h : ia_N sa A s H) : ia_N sa A U H := by
  obtain ⟨h1, h2, h3, h4, h5, h6, h7, h8, h9⟩ := h
  have ha : s.vm.Alike U.vm := by rw [← hv]; exact Vm.Alike.refl s.vm
  exact ⟨fun w hw => ia_nw_same (ia_Np_ok w hw) hv (h1 w hw), h2.moved ha, h3.moved ha, h4.same hv.symm, h5.moved ha, h6.moved ha, h7.moved ha, h8.moved ha, h9.moved ha⟩
theorem ia_N.kept {H H1 : Heap} (hq : ∀ a : Nat, a < H.size → ¬ A a → H1[a]? = H[a]?) (h : ia_N sa A s H) : ia_N sa A s H1 := by
  obtain ⟨h1, h2, h3, h4, h5, h6, h7, h8, h9⟩ := h
  exact ⟨h1, h2, h3, h4, h5.kept hq, h6.kept hq, h7.kept hq, ia_Ar.kept hq h8, ia_Ar.kept hq h9⟩
theorem ia_N.narrow {H : Heap} {B : Nat → Prop} (hAB : ∀ q, B q → A q) (h : ia_N sa A s H) : ia_N sa B s H := by
  obtain ⟨h1, h2, h3, h4, h5, h6, h7, h8, h9⟩ := h
  exact ⟨h1, h2, h3, h4, h5.narrow hAB, h6.narrow hAB, h7.narrow hAB, ia_Ar.narrow hAB h8, ia_Ar.narrow hAB h9⟩
theorem ia_blind {tys : List (ClassId × FieldType)} {ws : va_W} {sz : Nat} {vs : List Value} : FrameBlind (ia_P D sa tys ws sz vs) := fun a U g mk q => by
  obtain ⟨q0, q1, q2, q3, q4, q5⟩ := q
  exact ⟨q0, q1, q2, va_K.moved (u := U) (U := U.calling g mk a) (Vm.Alike.refl U.vm) q3, q4, ia_N.same (s := U) rfl q5⟩
/-- behind a call -/
theorem ia_after {H : Heap} {locs : List Loc} {mc ms : Nat} {ls : Array Slot} {st0 rest : List Value} {ws : va_W} {o : ia_O} {a : Array Value} (hr : va_Run p l e R s m args below meth c H locs nc ns mc ms (F0 m pc ls st0) rest (ia_Q D sa ws H.size o a) (va_A ws H.size)) (hS : va_S A s.heap H locs) (hF : ∀ q, va_A ws H.size q → A q)
    (kk : ∀ (ov : Option Value) (ws' : va_W) (tys' : List (ClassId × FieldType)) (H1 : Heap) (locs1 : List Loc), ia_rr sa (ws'.map Prod.fst) o.1 ov → ws'.length = o.2.2 → (∃ x, ws'.map Prod.fst = ws.map Prod.fst ++ x) → ia_R sa tys' o.2.1 ws' → va_P D vwCl ws' H1 → va_K D vwCl tys' s → va_D A ws' → va_S A s.heap H1 locs1 → W p l e R s m args below meth c H1 locs1 (nc + mc) (ns + ms) Q (F0 m (pc + 3) ls (ov.toList ++ rest))) : W p l e R s m args below meth c H locs nc ns Q (F0 m pc ls st0) := by
  intro T hT X
  obtain ⟨v, st₀, t, T', L, h0, X', hL, e1, e2, ⟨⟨ov, ws', tys', hv, g1, g2, g3, g4, g5, g6, g7⟩, hz, hk⟩, st⟩ := hr T hT X
  cases hv
  rw [h0] at hz hk
  have hvm : s.vm.Alike t.vm := by rw [← e2]; exact X'.warmed.alike
  obtain ⟨t2, a1, b1⟩ := kk v ws' tys' T'.heap (locs ++ L) g1 g2 g3 g4 (by rw [e1]; exact g5) (va_K.moved hvm.symm g6) (g7.weaken (fun _ _ _ z => hF _ z))
    ⟨Nat.le_trans hS.1 (by rw [e1]; exact hz), fun q h1 h2 => by rw [e1, hk q (Nat.lt_of_lt_of_le h1 hS.1) (fun z => h2 (hF q z))]; exact hS.2.1 q h1 h2, fun q hq => by
      rcases List.mem_append.mp hq with h | h
      · exact hS.2.2 q h
      · exact hF _ (hL q h)⟩ T' rfl X'
  exact ⟨t2, st t2 a1, b1⟩
theorem ia_take_ok {α : Type} {f : List ia_V → List ia_V → Option α} {o : α} : ∀ (k : Nat) (acc st : List ia_V), ia_take k acc st f = some o → ∃ us t, st = us ++ t ∧ us.length = k ∧ f (us.reverse ++ acc) t = some o
  | 0, acc, st, h => ⟨[], st, rfl, rfl, h⟩
  | k + 1, acc, [], h => by cases h
  | k + 1, acc, a :: t, h => by
    have h' : ia_take k (a :: acc) t f = some o := h
    obtain ⟨us, t', rfl, h2, h3⟩ := ia_take_ok k (a :: acc) t h'
    exact ⟨a :: us, t', rfl, by rw [List.length_cons, h2], by rw [List.reverse_cons, List.append_assoc]; exact h3⟩
theorem ia_S_app {ad : List Nat} : ∀ {us t : List ia_V} {vs : List Value}, ia_S sa ad (us ++ t) vs → ∃ v1 v2, vs = v1 ++ v2 ∧ ia_S sa ad us v1 ∧ ia_S sa ad t v2
  | [], t, vs, h => ⟨[], vs, rfl, rfl, h⟩
  | a :: us, t, _, ⟨v, t', h1, h2, h3⟩ => by
    obtain ⟨v1, v2, rfl, g1, g2⟩ := ia_S_app h3
    exact ⟨v :: v1, v2, by rw [h1]; rfl, ⟨v, v1, rfl, h2, g1⟩, g2⟩
theorem ia_S_mk {ad : List Nat} : ∀ {us t : List ia_V} {v1 v2 : List Value}, ia_S sa ad us v1 → ia_S sa ad t v2 → ia_S sa ad (us ++ t) (v1 ++ v2)
  | [], _, _, _, h, g => by cases h; exact g
  | _ :: _, _, _, _, ⟨v, t', h1, h2, h3⟩, g => by subst h1; exact ⟨v, _, rfl, h2, ia_S_mk h3 g⟩
theorem ia_S_rev {ad : List Nat} : ∀ {us : List ia_V} {vs : List Value}, ia_S sa ad us vs → ia_S sa ad us.reverse vs.reverse
  | [], _, h => by cases h; rfl
  | a :: us, _, ⟨v, t', h1, h2, h3⟩ => by
    subst h1
    rw [List.reverse_cons, List.reverse_cons]
    exact ia_S_mk (ia_S_rev h3) ⟨v, [], rfl, h2, rfl⟩
theorem ia_S_len {ad : List Nat} : ∀ {us : List ia_V} {vs : List Value}, ia_S sa ad us vs → vs.length = us.length
  | [], _, h => by cases h; rfl
  | a :: us, _, ⟨v, t', h1, h2, h3⟩ => by subst h1; rw [List.length_cons, List.length_cons, ia_S_len h3]
theorem ia_free {ws : va_W} {H : Heap} {locs : List Loc} (hD : va_D A ws) (hS : va_S A s.heap H locs) (hA : ∀ q, s.heap.size ≤ q → A q) : ∀ q, va_A ws H.size q → A q := fun q h => by
  rcases h with ⟨k, e0, h⟩ | h
  · exact hD.2 k _ h
  · exact hA q (Nat.le_trans hS.1 h)
theorem ia_pre {ws : va_W} {tys : List (ClassId × FieldType)} {H : Heap} {locs : List Loc} {vs : List Value} (N : ia_N sa A s s.heap) (hK : va_K D vwCl tys s) (hP : va_P D vwCl ws H) (hD : va_D A ws) (hS : va_S A s.heap H locs) (hA : ∀ q, s.heap.size ≤ q → A q) : ∀ U : State, U.heap = H → s.WarmedH U.vm → ia_P D sa tys ws H.size vs vs.toArray U := fun U hU hW =>
  ⟨rfl, by rw [hU], by rw [hU]; exact hP, va_K.moved hW.alike hK, hD.weaken (fun _ _ _ _ => trivial), by rw [hU]; exact (((N.kept hS.2.1).narrow (ia_free hD hS hA)).warm hW)⟩
theorem ia_back_S {ad : List Nat} {r : Option ia_V} {ov : Option Value} {t : List ia_V} {vt : List Value} (h : ia_rr sa ad r ov) (ht : ia_S sa ad t vt) : ia_S sa ad (ia_back r t) (ov.toList ++ vt) := by
  cases r with
  | none =>
    cases ov with
    | none => exact ht
    | some v => cases h
  | some a =>
    cases ov with
    | none => cases h
    | some v => exact ⟨v, vt, rfl, h, ht⟩
/-- the call's own step, however it is spelled -/
theorem ia_s_call {y2 : Nat} {us t : List ia_V} {o2 : ia_O} (hA : ∀ q, s.heap.size ≤ q → A q) (N : ia_N sa A s s.heap)
    (run : ∀ (H : Heap) (locs : List Loc) (ws : va_W) (tys : List (ClassId × FieldType)) (ls : Array Slot) (vs vt : List Value), ls.size = nL → ia_S sa (ws.map Prod.fst) us.reverse vs → ia_R sa tys σ ws → va_K D vwCl tys s → va_P D vwCl ws H → (vt.map fun v => v.category).sum ≤ 8 → ws.length = n → (∀ U : State, U.heap = H → s.WarmedH U.vm → ia_P D sa tys ws H.size vs vs.toArray U) → va_S A s.heap H locs → ∃ a, va_Run p l e R s m args below meth c H locs nc ns (ia_mc y2) (ia_ms y2) (F0 m pc ls (vs.reverse ++ vt)) vt (ia_Q D sa ws H.size o2 a) (va_A ws H.size))
    (hsz : ia_sz t ≤ 8) (h1c : nc + ia_mc y2 ≤ ia_mc y) (h2c : ns + ia_ms y2 ≤ ia_ms y) (ihk : ia_IH p l e R s m args below meth c Q D sa A as0 nL y ih out) (h : ih (pc + 3) lv (ia_back o2.1 t) o2.2.1 o2.2.2 (nc + ia_mc y2) (ns + ia_ms y2) = some out) : ia_WW p l e R s m args below meth c Q D sa A as0 nL y pc lv (us ++ t) σ n nc ns := by
  intro H locs ws tys ls l' vst hl hL hSt hK hP hD hS hn hR hxx h1 h2
  obtain ⟨v1, vt, rfl, g1, g2⟩ := ia_S_app hSt
  have g3 := ia_S_rev g1
  obtain ⟨a, hr⟩ := run H locs ws tys ls v1.reverse vt hl.1 g3 hR hK hP (by rw [ia_Ssz g2]; exact hsz) hn (ia_pre N hK hP hD hS hA) hS
  rw [List.reverse_reverse] at hr
  refine ia_after hr hS (ia_free hD hS hA) (fun ov ws' tys' H1 locs1 k1 k2 k3 k4 k5 k6 k7 k8 => ?_)
  obtain ⟨x, hx⟩ := k3
  obtain ⟨x0, hx0⟩ := hxx
  have hm : ∀ (k b : Nat), (ws.map Prod.fst)[k]? = some b → (ws'.map Prod.fst)[k]? = some b := by rw [hx]; exact ia_app_mono
  exact ihk _ _ _ _ _ _ _ h H1 locs1 ws' tys' ls l' _ hl (hL.mono hm) (ia_back_S k1 (g2.mono hm)) k6 k5 k7 k8 k2 k4 ⟨x0 ++ x, by rw [hx, hx0, List.append_assoc]⟩ h1c h2c
end IAC

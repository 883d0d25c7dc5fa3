section IAZ
variable {p : Program} {l : Launch} {e : Env} {R : Room} {s : State} {m : MethodId} {args : Array Value} {below : List Frame} {meth : Method} {c : Code}
variable {D : va_G} {sa : Nat × Nat} {y pc : Nat} {lv : List (Option ia_V)} {st : List ia_V} {σ : ia_H} {n nc ns : Nat} {out : ia_O} {d : Nat} {ws0 : va_W}
theorem ia_fin {H : Heap} {locs : List Loc} {ws : va_W} {tys : List (ClassId × FieldType)} {ov : Option Value} {r : Option ia_V} (hr : ia_rr sa (ws.map Prod.fst) r ov) (hK : va_K D vwCl tys s) (hP : va_P D vwCl ws H) (hD : va_D (va_A ws0 s.heap.size) ws) (hS : va_S (va_A ws0 s.heap.size) s.heap H locs) (hn : ws.length = n) (hR : ia_R sa tys σ ws) (hxx : ∃ x, ws.map Prod.fst = ws0.map Prod.fst ++ x) : ∀ t : State, t.heap = H → s.WarmedH t.vm → ia_Q D sa ws0 s.heap.size (r, σ, n) args s (.returned ov) t := fun t ht hW =>
  ⟨⟨ov, ws, tys, rfl, hr, hn, hxx, hR, by rw [ht]; exact hP, va_K.moved hW.alike hK, hD⟩, hS.F ht⟩
theorem ia_nar_ok {ty : FieldType} {x : Int32} {u : Nat} (hE : ia_E x = u) (h : ia_nar ty u = true) : narrow ty (.int x) = .int x := by
  unfold ia_nar at h
  split at h
  · rfl
  · rw [Bool.or_eq_true] at h
    rcases h with h | h
    · have : x = 0 := ia_E_inj (by rw [hE, ia_beq h]; decide)
      subst this; decide
    · have : x = 1 := ia_E_inj (by rw [hE, ia_beq h]; decide)
      subst this; decide
  · rw [Bool.and_eq_true] at h
    have h1 := ia_ble h.1
    have h2 := ia_blt h.2
    have : x = nI (u - 2147483648) := ia_E_inj (by rw [hE, show nI (u - 2147483648) = Int32.ofNat (u - 2147483648) from rfl, ia_Elen (by omega)]; omega)
    rw [this]
    exact (pk_charN (by omega)).1
  · have : x = 0 := ia_E_inj (by rw [hE, ia_beq h]; decide)
    subst this; decide
  · cases h
/-- a method's ends -/
theorem ia_e1 (X : ia_X p R s m args meth c y d) : decode (ia_code y) pc = .ok (.ireturn, 1) → ia_rt y st σ n = some out → ia_WW p l e R s m args below meth c (MQ below (ia_Q D sa ws0 s.heap.size out) args s (ia_mc y) (ia_ms y) (va_A ws0 s.heap.size)) D sa (va_A ws0 s.heap.size) (ws0.map Prod.fst) (ia_maxL y) y pc lv st σ n nc ns := by
  obtain ⟨hx, hb, hml, hown, hts, hlocks, hret, -⟩ := id X
  intro hdg h
  unfold ia_rt at h
  split at h
  · rename_i a
    split at h
    · rename_i ty hty
      obtain ⟨hz, h⟩ := ia_if_eq h
      rw [Bool.and_eq_true] at hz
      cases h
      intro H locs ws tys ls l' vst hl hL hSt hK hP hD hS hn hR hxx h1 h2
      obtain ⟨_, vt, rfl, ⟨x, rfl, x1, x2⟩, g3⟩ := hSt
      cases g3
      have hE : ia_E x = a.1 := ia_one (ia_beq hz.1) x1 x2
      have hnr := ia_nar_ok hE hz.2
      refine W.widen h1 h2 ?_
      exact W.zret (ty := ty) hx hb (hret.trans hty) hnr (ia_fin (r := some (.inl a)) ⟨x, rfl, x1, x2⟩ hK hP hD hS hn hR hxx) hS.2.2 hdg hlocks
    · cases h
  · cases h

theorem ia_e2 (X : ia_X p R s m args meth c y d) : decode (ia_code y) pc = .ok (.lreturn, 1) → ia_rl y st σ n = some out → ia_WW p l e R s m args below meth c (MQ below (ia_Q D sa ws0 s.heap.size out) args s (ia_mc y) (ia_ms y) (va_A ws0 s.heap.size)) D sa (va_A ws0 s.heap.size) (ws0.map Prod.fst) (ia_maxL y) y pc lv st σ n nc ns := by
  obtain ⟨hx, hb, hml, hown, hts, hlocks, hret, -⟩ := id X
  intro hdg h
  unfold ia_rl at h
  split at h
  · rename_i a
    split at h
    · rename_i hty
      cases h
      intro H locs ws tys ls l' vst hl hL hSt hK hP hD hS hn hR hxx h1 h2
      obtain ⟨_, vt, rfl, hv, g3⟩ := hSt
      cases hv
      cases g3
      refine W.widen h1 h2 ?_
      exact W.lret hx hb (hret.trans hty) (ia_fin (r := some (.inr (.inl a))) rfl hK hP hD hS hn hR hxx) hS.2.2 hdg hlocks
    · cases h
  · cases h
theorem ia_e0 (X : ia_X p R s m args meth c y d) : decode (ia_code y) pc = .ok (.return_, 1) → ia_rv y st σ n = some out → ia_WW p l e R s m args below meth c (MQ below (ia_Q D sa ws0 s.heap.size out) args s (ia_mc y) (ia_ms y) (va_A ws0 s.heap.size)) D sa (va_A ws0 s.heap.size) (ws0.map Prod.fst) (ia_maxL y) y pc lv st σ n nc ns := by
  obtain ⟨hx, hb, hml, hown, hts, hlocks, hret, -⟩ := id X
  intro hdg h
  unfold ia_rv at h
  split at h
  · split at h
    · rename_i hty
      cases h
      intro H locs ws tys ls l' vst hl hL hSt hK hP hD hS hn hR hxx h1 h2
      cases hSt
      refine W.widen h1 h2 ?_
      exact W.vret hx hb (hret.trans hty) (ia_fin (r := none) trivial hK hP hD hS hn hR hxx) hS.2.2 hdg hlocks
    · cases h
  · cases h

/-- a method's body, any number of steps -/
theorem ia_body (hM : ia_Mets d) (X : ia_X p R s m args meth c y d) (N : ia_N sa (va_A ws0 s.heap.size) s s.heap) : ∀ (fuel pc : Nat) (lv : List (Option ia_V)) (st : List ia_V) (σ : ia_H) (n nc ns : Nat), ia_x (ia_call d) y fuel pc lv st σ n nc ns = some out → ia_WW p l e R s m args below meth c (MQ below (ia_Q D sa ws0 s.heap.size out) args s (ia_mc y) (ia_ms y) (va_A ws0 s.heap.size)) D sa (va_A ws0 s.heap.size) (ws0.map Prod.fst) (ia_maxL y) y pc lv st σ n nc ns := by
  obtain ⟨hx, hb, hml, hown, hts, hlocks, hret, -⟩ := id X
  intro fuel
  induction fuel with
  | zero => intro pc lv st σ n nc ns h; cases h
  | succ fuel ih =>
    intro pc lv st σ n nc ns h
    have h' : ia_step (ia_call d) y (ia_x (ia_call d) y fuel) pc lv st σ n nc ns = some out := h
    clear h
    unfold ia_step at h'
    rw [fdd_eq] at h'
    split at h'
    · rename_i q hq
      refine ia_s_do hM X N (fun q h => Or.inr h) rfl (ins := q.1) (len := q.2) hq ?_ ?_ ?_ (fun pc lv st σ n nc ns h => ih pc lv st σ n nc ns h) h'
      · exact ia_e1 X
      · exact ia_e2 X
      · exact ia_e0 X
    · cases h'
theorem ia_ent_ok {ad : List Nat} : ∀ {as : List ia_V} {vs : List Value} (o : Nat), ia_S sa ad as vs → ∀ (i : Nat) (a : ia_V), (ia_ent as)[i]? = some (some a) → ∃ v, (o + i, v) ∈ lv_args o vs ∧ ia_v sa ad a v
  | [], _, o, h, i, a, hi => by cases hi
  | b :: as, _, o, ⟨v, t, h1, h2, h3⟩, i, a, hi => by
    subst h1
    rcases b with q | z | z
    · have hi' : ((some (.inl q) : Option ia_V) :: ia_ent as)[i]? = some (some a) := hi
      have hc : ¬ v.category = 2 := by rw [ia_vcat h2]; intro q; cases q
      cases i with
      | zero => cases hi'; exact ⟨v, List.mem_cons_self, h2⟩
      | succ i =>
        rw [List.getElem?_cons_succ] at hi'
        obtain ⟨w, g1, g2⟩ := ia_ent_ok (o + 1) h3 i a hi'
        refine ⟨w, List.mem_cons_of_mem _ ?_, g2⟩
        rw [if_neg hc, show o + (i + 1) = o + 1 + i from by omega]
        exact g1
    · have hi' : ((some (.inr (.inl z)) : Option ia_V) :: none :: ia_ent as)[i]? = some (some a) := hi
      have hc : v.category = 2 := by rw [ia_vcat h2]; rfl
      cases i with
      | zero => cases hi'; exact ⟨v, List.mem_cons_self, h2⟩
      | succ i =>
        rw [List.getElem?_cons_succ] at hi'
        cases i with
        | zero => cases hi'
        | succ i =>
          rw [List.getElem?_cons_succ] at hi'
          obtain ⟨w, g1, g2⟩ := ia_ent_ok (o + 2) h3 i a hi'
          refine ⟨w, List.mem_cons_of_mem _ ?_, g2⟩
          rw [if_pos hc, show o + (i + 1 + 1) = o + 2 + i from by omega]
          exact g1
    · have hi' : ((some (.inr (.inr z)) : Option ia_V) :: ia_ent as)[i]? = some (some a) := hi
      have hc : ¬ v.category = 2 := by rw [ia_vcat h2]; intro q; cases q
      cases i with
      | zero => cases hi'; exact ⟨v, List.mem_cons_self, h2⟩
      | succ i =>
        rw [List.getElem?_cons_succ] at hi'
        obtain ⟨w, g1, g2⟩ := ia_ent_ok (o + 1) h3 i a hi'
        refine ⟨w, List.mem_cons_of_mem _ ?_, g2⟩
        rw [if_neg hc, show o + (i + 1) = o + 1 + i from by omega]
        exact g1
theorem ia_pad_ok : ∀ (l : List (Option ia_V)) (k i : Nat) {a : ia_V}, (ia_pad k l)[i]? = some (some a) → l[i]? = some (some a)
  | [], k, i, a, h => by
    have h' : (List.replicate k (none : Option ia_V))[i]? = some (some a) := h
    rw [List.getElem?_replicate] at h'
    split at h'
    · cases h'
    · cases h'
  | b :: l, k, 0, a, h => h
  | b :: l, k, i + 1, a, h => by
    have h' : (b :: ia_pad (Nat.pred k) l)[i + 1]? = some (some a) := h
    rw [List.getElem?_cons_succ] at h' ⊢
    exact ia_pad_ok l _ i h'
theorem ia_sl {ad : List Nat} : ∀ {as : List ia_V} {vs : List Value}, ia_S sa ad as vs → (lg_sl vs).length = ia_sz as
  | [], _, h => by cases h; rfl
  | a :: as, _, ⟨v, t, h1, h2, h3⟩ => by
    subst h1
    have e1 : lg_sl (v :: t) = (if v.category = 2 then [.val v, .second] else [.val v]) ++ lg_sl t := by simp [lg_sl]
    rw [e1, List.length_append, ia_sl h3]
    show _ = ia_cat a + ia_sz as
    rw [← ia_vcat h2]
    rcases lv_cat v with q | q
    · rw [if_neg (by omega), q]; rfl
    · rw [if_pos q, q]; rfl
/-- every run that ends is a contract -/
theorem ia_met : ∀ d : Nat, ia_Mets d
  | 0 => fun y as σ n out h => by cases h
  | d + 1 => by
    intro y as σ n out h hok l D sa vs ws tys sz hvs hn hR
    have hM := ia_met d
    have h' : ia_if (Nat.ble (ia_sz as) (ia_maxL y)) (ia_x (ia_call d) y 100000 0 (ia_pad (ia_maxL y) (ia_ent as)) [] σ n 0 0) = some out := h
    obtain ⟨hsz, h'⟩ := ia_if_eq h'
    have hsz := ia_ble hsz
    obtain ⟨e1, e2, e3, e4, e5, e6, e7, e8⟩ := ia_okM_eq hok
    refine Met.ofW (cc := ia_code y) (maxL := ia_maxL y) (ret := ia_ret y) (ws' := ia_TB) e4 (by rw [ia_ws, e1]) ?_
    intro p e s m args below meth c s₁ B hml hv
    obtain ⟨rfl, hszz, hP, hK, hD0, hN⟩ := hv
    subst hszz
    have hown : s.vm.findClass (ia_nm y).cls = some m.cls := findClass_of_methodNamed B.named
    have X : ia_X p (headSpec (ia_ws y) (ia_rm (d + 1) y)).room s m vs.toArray meth c y d := ⟨B.exec, B.bytes, hml, by rw [← e3]; exact hown, atoms_spec (ws := ia_ws y) B.pre, B.notSynchronized, B.returns, rfl, rfl, rfl, rfl, fun hi => ((name_of_methodNamed B.named B.method).1).trans hi, hok⟩
    have hl := lv_entry vs (n := ia_maxL y) (by rw [ia_sl hvs]; exact hsz)
    rw [lg_entry_eq]
    refine ia_body (l := l) (e := e) (below := below) hM X hN 100000 0 _ [] σ n 0 0 h' s.heap [] ws tys _ _ [] hl (fun i a hi => ?_) rfl hK hP hD0.self va_S.rf hn hR ⟨[], by rw [List.append_nil]⟩ (Nat.zero_le _) (Nat.zero_le _)
    obtain ⟨v, g1, g2⟩ := ia_ent_ok 0 hvs i a (ia_pad_ok _ _ i hi)
    rw [Nat.zero_add] at g1
    exact ⟨v, g1, g2⟩
end IAZ

section IAI
variable {p : Program} {l : Launch} {e : Env} {R : Room} {s : State} {m : MethodId} {args : Array Value} {below : List Frame} {meth : Method} {c : Code} {Q : State → Prop}
variable {D : va_G} {sa : Nat × Nat} {A : Nat → Prop} {as0 : List Nat} {nL y pc : Nat} {lv : List (Option ia_V)} {st : List ia_V} {σ : ia_H} {n nc ns : Nat} {ih : ia_K} {out : ia_O} {i d : Nat}
/-- what a call needs of the tables and the room -/
theorem ia_callB {y2 k : Nat} (X : ia_X p R s m args meth c y d) (h2 : ia_okM y2 = true) (hl : Cond.methodLink (ia_own (ia_cls y)) i (ia_nm y2) ∈ ia_TB) (hd : (parseMethodDescriptor (ia_nm y2).desc).map (fun d => d.parameters.length) = some k) : CallB R s args (ia_own (ia_cls y)) i (ia_nm y2) (ia_code y2) (ia_maxL y2) (ia_ret y2) (ia_ws y2) (ia_rm d y2) (ia_mc y2) (ia_ms y2) k := by
  obtain ⟨hx, hb, hml, hown, hts, -, -, hRf, hRl, -⟩ := id X
  obtain ⟨e1, e2, e3, e4, e5, e6, e7, e8⟩ := ia_okM_eq h2
  exact callB_of (Ts := ia_cw y :: ia_TB) (ws' := ia_TB) k hts (ia_good e2) (by rw [ia_ws, e1]) rfl rfl (X.hts e5) (X.hts hl) ⟨e6, e7, hd⟩ ⟨by rw [hRf]; exact Nat.le_refl _, by rw [hRl]; show 8 + (ia_maxL y2 + 11) + 100 * d ≤ _; omega⟩
theorem ia_pred {y2 : Nat} (h : (parseMethodDescriptor (ia_nm y2).desc).map (fun d => d.parameters.length + 1) = some (ia_na y2)) : ∃ k, ia_na y2 = k + 1 ∧ (parseMethodDescriptor (ia_nm y2).desc).map (fun d => d.parameters.length) = some k := by
  cases hz : parseMethodDescriptor (ia_nm y2).desc with
  | none => rw [hz] at h; cases h
  | some q =>
    rw [hz] at h
    exact ⟨q.parameters.length, (Option.some.inj h).symm, rfl⟩
theorem ia_rcv_ok {y2 : Nat} {as : List ia_V} (h : ia_rcv y2 σ as = true) : (∃ k c0 t, as = .inr (.inr (.inl (some k))) :: t ∧ ia_get2 σ k = some c0 ∧ c0.1 = ia_cls y2 ∧ c0.1 < 13) ∨ (∃ t, as = .inr (.inr (.inr 0)) :: t ∧ ia_cls y2 = 15) := by
  unfold ia_rcv at h
  split at h
  · rename_i k t
    split at h
    · rename_i c0 hc0
      rw [Bool.and_eq_true] at h
      exact Or.inl ⟨k, c0, t, rfl, hc0, ia_beq h.1, ia_blt h.2⟩
    · cases h
  · rename_i t
    exact Or.inr ⟨t, rfl, ia_beq h⟩
  · cases h
theorem ia_s_inv {call : Nat → List ia_V → ia_H → Nat → Option ia_O} (hM : ia_MetsC call d) (X : ia_X p R s m args meth c y d) (N : ia_N sa A s s.heap) (hA : ∀ q, s.heap.size ≤ q → A q) (hnL : nL = ia_maxL y) {ins : Instr} {kd : Nat} (hdg : decode (ia_code y) pc = .ok (ins, 3)) (hk : (kd = 0 ∧ ins = .invokevirtual i) ∨ (kd = 1 ∧ ins = .invokestatic i) ∨ (kd = 2 ∧ ins = .invokespecial i)) (ihk : ia_IH p l e R s m args below meth c Q D sa A as0 nL y ih out) (h : ia_inv call y kd i ih pc lv st σ n nc ns = some out) : ia_WW p l e R s m args below meth c Q D sa A as0 nL y pc lv st σ n nc ns := by
  obtain ⟨hx, hb, hml, hown, hts, -, -, hRf, hRl, hRc, hRs, -⟩ := id X
  have hfix : CallFix p m c (ia_code y) nL s args (ia_cw y :: ia_TB) (ia_own (ia_cls y)) := ⟨hx, hb, hml.trans hnL.symm, hown, hts⟩
  unfold ia_inv at h
  split at h
  · rename_i y2 md z1 z2 hpl
    have hok := ia_pl_ok hpl
    obtain ⟨us, t, rfl, hlen, h⟩ := ia_take_ok _ _ _ h
    rw [List.append_nil] at h
    obtain ⟨hq, h⟩ := ia_if_eq h
    simp only [Bool.and_eq_true, Bool.or_eq_true] at hq
    obtain ⟨hkm, hsz, hrc, hc1, hc2⟩ := hq
    have hsz := ia_ble hsz
    have hc1 := ia_ble hc1
    have hc2 := ia_ble hc2
    split at h
    · rename_i r σ' n' hcall
      rw [ia_frc_eq, ia_frc_eq, ia_nx_eq] at h
      have hf : nc + ia_mc y2 ≤ R.cells ∧ ns + ia_ms y2 ≤ R.slots := ⟨by rw [hRc]; exact hc1, by rw [hRs]; exact hc2⟩
      refine ia_s_call (y2 := y2) (o2 := (r, σ', n')) hA N (fun H locs ws tys ls vs vt hls hvs hR hK hP hvt hn hpre hS => ?_) hsz hc1 hc2 ihk h
      have hvl : vs.length = ia_na y2 := by rw [ia_S_len hvs, List.length_reverse, hlen]
      rcases hk with ⟨rfl, rfl⟩ | ⟨rfl, rfl⟩ | ⟨rfl, rfl⟩
      · -- virtual
        have hmd : md = 0 := by
          rcases hkm with z | z
          · exact (ia_beq z).symm
          · exact absurd (ia_beq z.1) (by decide)
        subst hmd
        obtain ⟨k1, k2, k3, k4, k5, k6⟩ := ia_ok1v hok
        obtain ⟨k, hk1, hk2⟩ := ia_pred k6
        have hmet := hM y2 _ σ n _ hcall k1 l D sa vs ws tys H.size hvs hn hR
        have hr := ia_rcv_ok (hrc.resolve_left (fun z => absurd (ia_beq z) (by decide)))
        have hrecv : ∃ b As, vs = .ref b :: As ∧ ∃ cellB : Cell, H[b]? = some cellB ∧ cellB.vm.isStatics = false ∧ s.vm.findClass (ia_nm y2).cls = some cellB.cls := by
          rcases hr with ⟨k0, c0, t0, e0, hc0, hc3, hc4⟩ | ⟨t0, e0, hc3⟩
          · rw [e0] at hvs
            obtain ⟨_, As, rfl, ⟨b, hb0, rfl⟩, -⟩ := hvs
            obtain ⟨e1, hw, hc⟩ := hR.at hc0 (by omega) hb0
            obtain ⟨vs0, rfl, -⟩ := hc.1 (by omega)
            have hvc : ∃ q, vwCl[c0.1]? = some q := ⟨_, List.getElem?_eq_getElem (show c0.1 < vwCl.length from hc4)⟩
            obtain ⟨q, hq⟩ := hvc
            refine ⟨b, As, rfl, ?_⟩
            have hz := va_recv hK hP hq hw
            rw [(ia_okC_at hq).2.2.2, hc3, ← (ia_okM_eq k1).2.2.1] at hz
            exact hz
          · rw [e0] at hvs
            obtain ⟨_, As, rfl, hv0, -⟩ := hvs
            cases hv0
            refine ⟨_, As, rfl, ?_⟩
            have hz := vk_recv (i := 0) N.2.2.2.2.1 (by decide) hS
            rw [(ia_okM_eq k1).2.2.1, hc3]
            exact hz
        obtain ⟨b, As, rfl, hcell⟩ := hrecv
        have hAl : As.length = k := by rw [List.length_cons, hk1] at hvl; omega
        exact ⟨_, va_runV (As := As) (rest := vt) hfix hmet ⟨ia_callB X k1 k2 hk2, X.hts k3, X.hts k4⟩ ⟨ia_blind, hcell, hpre⟩ rfl hAl hls (by show (Value.ref b :: As).reverse ++ vt = _; rw [List.reverse_cons, List.append_assoc]; rfl) (lv_room hvt) hdg hf⟩
      · -- static
        have hmd : md = 1 := by
          rcases hkm with z | z
          · exact (ia_beq z).symm
          · exact absurd (ia_beq z.1) (by decide)
        subst hmd
        obtain ⟨k1, k2, k3, k6⟩ := ia_ok1s hok
        have hmet := hM y2 _ σ n _ hcall k1 l D sa vs ws tys H.size hvs hn hR
        exact ⟨_, va_runS (As := vs) (rest := vt) hfix hmet ⟨ia_callB X k1 k2 k6, X.hts k3⟩ ⟨ia_blind, hpre⟩ rfl hvl hls rfl (lv_room hvt) hdg hf⟩
      · -- constructors
        have hrecv : ia_na y2 ≠ 0 → ∃ v As, vs = v :: As := fun hz => by
          cases vs with
          | nil => exact absurd hvl.symm hz
          | cons v As => exact ⟨v, As, rfl⟩
        have href : ∃ b As, vs = .ref b :: As := by
          have hmd1 : ¬ Nat.beq md 1 = true := fun z => by
            rcases hkm with w | w
            · have a1 := ia_beq z; have a2 := ia_beq w; omega
            · have a1 := ia_beq z; have a2 := ia_beq w.2; omega
          rcases ia_rcv_ok (hrc.resolve_left hmd1) with ⟨k0, c0, t0, e0, -⟩ | ⟨t0, e0, -⟩
          · rw [e0] at hvs
            obtain ⟨_, As, rfl, ⟨b, hb0, rfl⟩, -⟩ := hvs
            exact ⟨b, As, rfl⟩
          · rw [e0] at hvs
            obtain ⟨_, As, rfl, hv0, -⟩ := hvs
            cases hv0
            exact ⟨_, As, rfl⟩
        obtain ⟨b, As, rfl⟩ := href
        have hmd : md = 2 ∨ md = 3 := by
          rcases hkm with z | z
          · exact Or.inl (ia_beq z).symm
          · exact Or.inr (ia_beq z.2)
        rcases hmd with rfl | rfl
        · obtain ⟨k1, k2, k3, k4, k6⟩ := ia_ok1i hok
          obtain ⟨k, hk1, hk2⟩ := ia_pred k6
          have hAl : As.length = k := by rw [List.length_cons, hk1] at hvl; omega
          have hmet := hM y2 _ σ n _ hcall k1 l D sa _ ws tys H.size hvs hn hR
          have hcb := ia_callB X k1 k2 hk2
          rw [k4.2] at hcb
          exact ⟨_, va_runI (As := As) (rest := vt) hfix hmet ⟨hcb, k4.1, X.hts k3⟩ ⟨ia_blind, hpre⟩ rfl hAl hls (by show (Value.ref b :: As).reverse ++ vt = _; rw [List.reverse_cons, List.append_assoc]; rfl) (lv_room hvt) hdg hf⟩
        · obtain ⟨k1, k2, k2', k3, k4, k6⟩ := ia_ok1n hok
          obtain ⟨k, hk1, hk2⟩ := ia_pred k6
          have hAl : As.length = k := by rw [List.length_cons, hk1] at hvl; omega
          have hmet := hM y2 _ σ n _ hcall k1 l D sa _ ws tys H.size hvs hn hR
          obtain ⟨e1, e2, e3, e4, e5, e6, e7, e8⟩ := ia_okM_eq k1
          have hnw := N.1 _ k2'
          rw [k2] at hnw
          rw [k4.2] at e1
          have hcn : va_CN R s args (ia_own (ia_cls y)) i (ia_nm y2) RX11 (ia_code y2) (ia_maxL y2) none (ia_ws y2) (ia_rm d y2) (ia_mc y2) (ia_ms y2) k := va_cnB (Ts := ia_cw y :: ia_TB) (ws' := ia_TB) k hts (ia_good e2) (by rw [ia_ws, e1]) rfl rfl hnw (X.hts e5) ⟨e6, e7, hk2⟩ ⟨by rw [hRf]; exact Nat.le_refl _, by rw [hRl]; show 8 + (ia_maxL y2 + 11) + 100 * d ≤ _; omega⟩
          exact ⟨_, va_runIN (As := As) (rest := vt) hfix hmet ⟨hcn, k4.1, X.hts k3⟩ ⟨ia_blind, hpre⟩ rfl hAl hls (by show (Value.ref b :: As).reverse ++ vt = _; rw [List.reverse_cons, List.append_assoc]; rfl) (lv_room hvt) hdg hf⟩
    · cases h
  · rename_i z0 z1 z2 z3 hpl
    split at h
    · rename_i k t
      obtain ⟨hq, h⟩ := ia_if_eq h
      rw [Bool.and_eq_true] at hq
      have hkd := ia_beq hq.1
      have hsz := ia_ble hq.2
      rw [ia_nx_eq] at h
      intro H locs ws tys ls l' vst hl hL hSt hK hP hD hS hn hR hxx h1 h2
      obtain ⟨_, vt, rfl, ⟨b, hkb, rfl⟩, g3⟩ := hSt
      have hins : ins = .invokespecial i := by
        rcases hk with z | z | z
        · omega
        · omega
        · exact z.2
      subst hins
      refine W.objInit hx hb hown (X.hts (ia_is_in (ia_pl_ok hpl))) (X.hts (ia_is_in ia_oi)) (X.hts (ia_is_in ia_oc)) (g := F0 m pc ls (.ref b :: vt)) rfl (by rw [hml, ← hnL]; exact hl.1) rfl hdg (by rw [hRf]; omega) (by rw [hRl]; show 2 * 0 + _ + 12 ≤ _; rw [ia_Ssz g3]; omega) ?_
      exact ihk _ _ _ _ _ _ _ h H locs ws tys ls l' _ hl hL g3 hK hP hD hS hn hR hxx h1 h2
    · cases h
  · rename_i z0 z1 z2 z3 hpl
    split at h
    · rename_i k dp dd sp ss t
      obtain ⟨hq, h⟩ := ia_if_eq h
      simp only [Bool.and_eq_true] at hq
      obtain ⟨⟨q1, q2⟩, ⟨q3, q4⟩, ⟨q5, q6⟩, q7, q8⟩ := hq
      have hkd := ia_beq q1
      have hsz := ia_ble q2
      have hins : ins = .invokestatic i := by
        rcases hk with z | z | z
        · omega
        · exact z.2
        · omega
      subst hins
      split at h
      · rename_i cs hcs
        split at h
        · rename_i cd hcd
          obtain ⟨hq2, h⟩ := ia_if_eq h
          simp only [Bool.and_eq_true, Bool.or_eq_true] at hq2
          obtain ⟨⟨w1, w2⟩, w3, w4⟩ := hq2
          have w1 := ia_beq w1
          have w3 : k.1 - 2147483648 ≤ cs.2.1 := ia_ble w3
          have w4 : k.1 - 2147483648 = cd.2.1 := ia_beq w4
          rw [ia_set2K_eq, ia_nx_eq] at h
          intro H locs ws tys ls l' vst hl hL hSt hK hP hD hS hn hR hxx h1 h2
          obtain ⟨_, _, rfl, ⟨xk, rfl, xk1, xk2⟩, _, _, rfl, ⟨xd, rfl, xd1, xd2⟩, _, _, rfl, ⟨bd, hbd, rfl⟩, _, _, rfl, ⟨xs, rfl, xs1, xs2⟩, _, vt, rfl, ⟨bs, hbs, rfl⟩, g3⟩ := hSt
          have e1 := ia_beq q3
          have e2 := ia_beq q4
          have e3 := ia_beq q5
          have e4 := ia_beq q6
          have e5 := ia_beq q7
          have e6 := ia_ble q8
          have hxd : xd = 0 := ia_E_inj (by rw [ia_E0]; omega)
          have hxs : xs = 0 := ia_E_inj (by rw [ia_E0]; omega)
          subst hxd
          subst hxs
          have hEk : ia_E xk = k.1 := ia_one e5 xk1 xk2
          have hck := ia_cl (x := xk) (by omega)
          rw [hEk] at hck
          have hnegk : ¬ xk < 0 := by rw [ia_neg]; omega
          have hc0 : (0 : Int32).toNatClampNeg = 0 := rfl
          have hneg0 : ¬ (0 : Int32) < 0 := by decide
          have hloc : (vt.map fun v => v.category).sum + (nativeFrameWords "java/lang/System" "arraycopy" 5 + 11) ≤ R.locals := by
            rw [ia_Ssz g3, hRl]
            have hz : nativeFrameWords "java/lang/System" "arraycopy" 5 ≤ 60 := by decide +kernel
            omega
          have w2' : cs.1 = 50 ∨ cs.1 = 51 := by
            rcases w2 with z | z
            · exact Or.inl (ia_beq z)
            · exact Or.inr (ia_beq z)
          obtain ⟨es, hws, hccs⟩ := hR.at hcs (by omega) hbs
          obtain ⟨ed, hwd, hccd⟩ := hR.at hcd (by omega) hbd
          have fin : ∀ (e1 : va_E), ia_c sa (ws.map Prod.fst) tys (cd.1, cd.2.1, cs.2.2) e1 → ∀ (H1 : Heap) (locs1 : List Loc), va_P D vwCl (ws.set dd (bd, e1)) H1 → va_D A (ws.set dd (bd, e1)) → va_S A s.heap H1 locs1 → W p l e R s m args below meth c H1 locs1 nc ns Q (F0 m (pc + 3) ls vt) := fun e1 he1 H1 locs1 hP1 hD1 hS1 => by
            have hfst := ia_fst_set (e := e1) hwd
            exact ihk _ _ _ _ _ _ _ h H1 locs1 _ tys ls l' vt hl (by rw [hfst]; exact hL) (by rw [hfst]; exact g3) hK hP1 hD1 hS1 (by rw [List.length_set]; exact hn) (hR.set hwd he1) (by rw [hfst]; exact hxx) h1 h2
          have hlk := X.hts (ia_is_in (ia_pl_ok hpl))
          have hcml : c.maxLocals = ls.size := by rw [hml, ← hnL]; exact hl.1.symm
          rcases w2' with hz | hz
          · obtain ⟨c1, f, rfl, hm1, hf⟩ := hccs.2.1 hz
            obtain ⟨c2, g, rfl, hm2, -⟩ := hccd.2.1 (by omega)
            obtain ⟨t1, ht1⟩ := ia_mem_at hm1
            obtain ⟨t2, ht2⟩ := ia_mem_at hm2
            refine va_copyi hx hb hcml hown hlk (X.hts (ia_is_in ia_an)) (X.hts (ia_is_in ia_ast)) (X.hts (ia_is_in ia_asy)) hK hP hD hS ss dd t1 t2 hws hwd ht1 ht2 rfl hneg0 hneg0 hnegk (by rw [hc0, hck]; omega) (by rw [hc0, hck]; omega) (fun _ _ => rfl) (by rw [hRf]; omega) hloc hdg (fin _ ?_)
            refine ⟨fun z => absurd z (by show ¬ cd.1 < 50; omega), fun _ => ⟨c2, _, rfl, hm2, fun j a hj hlt => ?_⟩, fun z => absurd z (by show ¬ cd.1 = 51; omega), fun z => absurd z (by show ¬ cd.1 = 52; omega), fun z => absurd z (by show ¬ cd.1 = 53; omega), fun z => absurd z (by show ¬ cd.1 = 54; omega), fun z => absurd z (by show ¬ cd.1 = 55; omega)⟩
            have hlt' : j < cd.2.1 := hlt
            rw [hc0, hck, pk_cpy_in (Nat.zero_le _) (by omega)]
            rw [show 0 + (j - 0) = j from by omega]
            exact hf j a hj (by omega)
          · obtain ⟨c1, f, rfl, hm1, hf⟩ := hccs.2.2.1 hz
            obtain ⟨c2, g, rfl, hm2, -⟩ := hccd.2.2.1 (by omega)
            obtain ⟨t1, ht1⟩ := ia_mem_at hm1
            obtain ⟨t2, ht2⟩ := ia_mem_at hm2
            refine va_copyl hx hb hcml hown hlk (X.hts (ia_is_in ia_an)) (X.hts (ia_is_in ia_ast)) (X.hts (ia_is_in ia_asy)) hK hP hD hS ss dd t1 t2 hws hwd ht1 ht2 rfl hneg0 hneg0 hnegk (by rw [hc0, hck]; omega) (by rw [hc0, hck]; omega) (fun _ _ => rfl) (by rw [hRf]; omega) hloc hdg (fin _ ?_)
            refine ⟨fun z => absurd z (by show ¬ cd.1 < 50; omega), fun z => absurd z (by show ¬ cd.1 = 50; omega), fun _ => ⟨c2, _, rfl, hm2, fun j a hj hlt => ?_⟩, fun z => absurd z (by show ¬ cd.1 = 52; omega), fun z => absurd z (by show ¬ cd.1 = 53; omega), fun z => absurd z (by show ¬ cd.1 = 54; omega), fun z => absurd z (by show ¬ cd.1 = 55; omega)⟩
            have hlt' : j < cd.2.1 := hlt
            rw [hc0, hck, pk_cpy_in (Nat.zero_le _) (by omega)]
            rw [show 0 + (j - 0) = j from by omega]
            exact hf j a hj (by omega)
        · cases h
      · cases h
    · cases h
  · rename_i z0 z1 z2 z3 hpl
    split at h
    · rename_i b a t
      obtain ⟨hq, h⟩ := ia_if_eq h
      simp only [Bool.and_eq_true] at hq
      obtain ⟨⟨q1, q2⟩, q3, q4⟩ := hq
      have hkd := ia_beq q1
      have hsz := ia_ble q2
      have e3 := ia_beq q3
      have e4 := ia_beq q4
      have hins : ins = .invokestatic i := by
        rcases hk with z | z | z
        · omega
        · exact z.2
        · omega
      subst hins
      intro H locs ws tys ls l' vst hl hL hSt hK hP hD hS hn hR hxx h1 h2
      obtain ⟨_, _, rfl, ⟨zb, rfl, zb1, zb2⟩, _, vt, rfl, ⟨za, rfl, za1, za2⟩, g3⟩ := hSt
      refine va_mmin hx hb (by rw [hml, ← hnL]; exact hl.1.symm) hown (X.hts (ia_is_in (ia_pl_ok hpl))) (X.hts (ia_is_in ia_mms)) (X.hts (ia_is_in ia_mmi)) (X.hts (ia_is_in ia_mmc)) (by rw [hRf]; omega) (by rw [hRl, ia_Ssz g3]; omega) (by rw [hRc]; exact h1) (by rw [hRs]; exact h2) hdg ?_
      split at h
      · rename_i hz
        have hz := ia_blt hz
        rw [ia_nx_eq] at h
        have hlt : zb < za := by rw [ia_lt]; omega
        rw [if_pos hlt]
        exact ihk _ _ _ _ _ _ _ h H locs ws tys ls l' _ hl hL ⟨_, _, rfl, ⟨zb, rfl, zb1, zb2⟩, g3⟩ hK hP hD hS hn hR hxx h1 h2
      · rename_i hz
        have hz := ia_nblt hz
        rw [ia_nx_eq] at h
        have hlt : ¬ zb < za := by rw [ia_lt]; omega
        rw [if_neg hlt]
        exact ihk _ _ _ _ _ _ _ h H locs ws tys ls l' _ hl hL ⟨_, _, rfl, ⟨za, rfl, za1, za2⟩, g3⟩ hK hP hD hS hn hR hxx h1 h2
    · cases h
  · rename_i z0 z1 z2 z3 hpl
    split at h
    · rename_i b a t
      obtain ⟨hq, h⟩ := ia_if_eq h
      simp only [Bool.and_eq_true] at hq
      obtain ⟨⟨q1, q2⟩, q3, q4⟩ := hq
      have hkd := ia_beq q1
      have hsz := ia_ble q2
      have e3 := ia_beq q3
      have e4 := ia_beq q4
      have hins : ins = .invokestatic i := by
        rcases hk with z | z | z
        · omega
        · exact z.2
        · omega
      subst hins
      intro H locs ws tys ls l' vst hl hL hSt hK hP hD hS hn hR hxx h1 h2
      obtain ⟨_, _, rfl, ⟨zb, rfl, zb1, zb2⟩, _, vt, rfl, ⟨za, rfl, za1, za2⟩, g3⟩ := hSt
      refine va_mmax hx hb (by rw [hml, ← hnL]; exact hl.1.symm) hown (X.hts (ia_is_in (ia_pl_ok hpl))) (X.hts (ia_is_in ia_mxs)) (X.hts (ia_is_in ia_mmi)) (X.hts (ia_is_in ia_mxc)) (by rw [hRf]; omega) (by rw [hRl, ia_Ssz g3]; omega) (by rw [hRc]; exact h1) (by rw [hRs]; exact h2) hdg ?_
      split at h
      · rename_i hz
        have hz := ia_blt hz
        rw [ia_nx_eq] at h
        have hlt : za < zb := by rw [ia_lt]; omega
        rw [if_pos hlt]
        exact ihk _ _ _ _ _ _ _ h H locs ws tys ls l' _ hl hL ⟨_, _, rfl, ⟨zb, rfl, zb1, zb2⟩, g3⟩ hK hP hD hS hn hR hxx h1 h2
      · rename_i hz
        have hz := ia_nblt hz
        rw [ia_nx_eq] at h
        have hlt : ¬ za < zb := by rw [ia_lt]; omega
        rw [if_neg hlt]
        exact ihk _ _ _ _ _ _ _ h H locs ws tys ls l' _ hl hL ⟨_, _, rfl, ⟨za, rfl, za1, za2⟩, g3⟩ hK hP hD hS hn hR hxx h1 h2
    · cases h
  · cases h
end IAI

/-! ## the law's own methods person and debt (wip/p2/gen9z8.py) -/
set_option maxRecDepth 100000 in
theorem xs_19_ef2370ea {a1 : Int32} {w : cm_W} (hG : sv_w sg w) : ∃ x : Int32, cm_C 1 19 [.inr (.inr (some 0)), .inl a1] w (some (.inl x), w) ∧ ((x.toInt = 1 ∧ 0 ≤ a1.toInt ∧ a1.toInt ≤ 9) ∨ (x.toInt = 0)) := by
  obtain ⟨r, w', hC, hG', hF, q, hq, hr, hp, hs⟩ := wk_use (d := 1) sm_19_ef2370ea_ok (by decide) (as := [.inr (.inr (some 0)), .inl a1]) (w := w) ⟨rfl, sv_in_top _, trivial⟩ (fun f hf => by
    cases hf) hG
  have ew : w' = w := Prod.ext (funext fun k => funext fun i => (hF k i (fun ⟨r, z, _⟩ => by cases z)).1) (funext fun k => funext fun i => (hF k i (fun ⟨r, z, _⟩ => by cases z)).2)
  subst ew
  simp only [sm_19_ef2370ea, List.mem_cons, List.not_mem_nil, or_false] at hq
  rcases hq with rfl | rfl
  · obtain ⟨x, rfl, hx⟩ := wk_int hr
    have hx := hb_in hx
    have ra1 := hb_in (lo := 2147483648) (hi := 2147483657) (x := a1) hp.2.1
    exact ⟨x, hC, Or.inl ⟨by omega, by omega, by omega⟩⟩
  · obtain ⟨x, rfl, hx⟩ := wk_int hr
    have hx := hb_in hx
    exact ⟨x, hC, Or.inr ((by omega))⟩
/-- the class answers, or throws -/
theorem ex_cp {w : cm_W} {p q : Int32} (hG : sv_w sg w) : (∃ x : Int32, cm_C 24 164 (.inr (.inr (some 0)) :: [p, q].map .inl) w (some (.inl x), w)) ∨ ∃ bv : Int32, cm_C 24 23 [.inr (.inr (some 0)), .inl p] w (some (.inl bv), w) ∧ (bv = 0 ∨ q.toInt < 0 ∨ 7 < q.toInt) := by
  obtain ⟨x, hC, hx⟩ := xs_23_ef2370ea (w := w) (a1 := p) hG
  rcases hx with hx | hx
  · by_cases hq : 0 ≤ q.toInt ∧ q.toInt ≤ 7
    · obtain ⟨v, hv⟩ := jpe_ok (w := w) (p := p) (q := q) (b := x) (cm_C_mono (by decide) hC) (by omega) (by omega) hq hG
      exact Or.inl ⟨v, cm_C_mono (by decide) hv⟩
    · exact Or.inr ⟨x, cm_C_mono (by decide) hC, Or.inr (by omega)⟩
  · exact Or.inr ⟨x, cm_C_mono (by decide) hC, Or.inl (Int32.toInt_inj.mp (by rw [show (0 : Int32).toInt = 0 from rfl]; omega))⟩
theorem ex_cd {w : cm_W} {p q : Int32} (hG : sv_w sg w) : (∃ x : Int32, cm_C 24 163 (.inr (.inr (some 0)) :: [p, q].map .inl) w (some (.inl x), w)) ∨ ∃ bv : Int32, cm_C 24 19 [.inr (.inr (some 0)), .inl p] w (some (.inl bv), w) ∧ (bv = 0 ∨ q.toInt < 0 ∨ 5 < q.toInt) := by
  obtain ⟨x, hC, hx⟩ := xs_19_ef2370ea (w := w) (a1 := p) hG
  rcases hx with hx | hx
  · by_cases hq : 0 ≤ q.toInt ∧ q.toInt ≤ 5
    · obtain ⟨v, hv⟩ := jde_ok (w := w) (p := p) (q := q) (b := x) (cm_C_mono (by decide) hC) (by omega) (by omega) hq hG
      exact Or.inl ⟨v, cm_C_mono (by decide) hv⟩
    · exact Or.inr ⟨x, cm_C_mono (by decide) hC, Or.inr (by omega)⟩
  · exact Or.inr ⟨x, cm_C_mono (by decide) hC, Or.inl (Int32.toInt_inj.mp (by rw [show (0 : Int32).toInt = 0 from rfl]; omega))⟩
section EX2
variable {p : Program} {l : Launch} {e : Env} {s : State} {m : MethodId} {below : List Frame} {meth : Method} {c : Code} {b L : Nat} {xs : Nat → Int32} {D : va_G} {sa : Nat × Nat} {sb : Nat → Nat} {as0 : List Nat} {lx : List (Nat × Value)} {pc : Nat} {n nc ns ax am ao q r : Nat} {w : cm_W}
def ex_code2 (cc : ByteArray) (j : Nat) : Prop := decode cc 0 = .ok (.aload_n 3, 1) ∧ decode cc 1 = .ok (.iconst 0, 1) ∧ decode cc 2 = .ok (.aload_n 0, 1) ∧ decode cc 3 = .ok (.iload_n 1, 1) ∧ decode cc 4 = .ok (.iload_n 2, 1) ∧ decode cc 5 = .ok (.invokevirtual j, 3) ∧ decode cc 8 = .ok (.i2l, 1) ∧ decode cc 9 = .ok (.lastore, 1) ∧ decode cc 10 = .ok (.goto 7, 3) ∧ decode cc 13 = .ok (.astore 4, 2) ∧ decode cc 15 = .ok (.iconst 1, 1) ∧ decode cc 16 = .ok (.ireturn, 1) ∧ decode cc 17 = .ok (.iconst 0, 1) ∧ decode cc 18 = .ok (.ireturn, 1)
def ex_F (y : MethodName) (cc : ByteArray) (jc yi pp is is2 pt ln : Nat) (df hi : Int) (os : Array Int) : Prop := y.cls = RX11 ∧ Cond.code y cc 3 (some .int) ∈ ia_TB ∧ ex_code cc jc is is2 pt ln df hi os ∧ ia_okI 11 (jc, 1, yi, 0, 0, pp) = true ∧ ia_na yi = 2 ∧ ia_mc yi = 0 ∧ ia_ms yi = 0 ∧ ia_cls yi = 11
def ex_F2 (y2 : MethodName) (cc2 : ByteArray) (j : Nat) (y : MethodName) (i : Nat) : Prop := y2.cls = R_law ∧ Cond.codeWith y2 cc2 5 (some .int) [(0, 10, 13, 13)] ∈ ia_TB ∧ ex_code2 cc2 j ∧ Cond.methodLink R_law j y ∈ ia_TB ∧ Cond.instanceMethod y ∈ ia_TB ∧ Cond.selects RX11 y y ∈ ia_TB ∧ (parseMethodDescriptor y.desc).map (fun d => d.parameters.length) = some 2 ∧ Cond.methodLink R_law i y2 ∈ ia_TB ∧ Cond.static y2 ∈ ia_TB ∧ (parseMethodDescriptor y2.desc).map (fun d => d.parameters.length) = some 4
set_option maxRecDepth 100000 in
theorem ex_i11 : Cond.initialized RX11 ∈ ia_TB := ia_w_tb (p := 114) (by decide +kernel) (by intro z; cases z) (by decide +kernel)
set_option maxRecDepth 100000 in
theorem ex_i0 : Cond.initialized R_law ∈ ia_TB := ia_w_tb (p := 113) (by decide +kernel) (by intro z; cases z) (by decide +kernel)
set_option maxRecDepth 100000 in
theorem ex_c13 : Cond.classLink R_law 13 ex_E ∈ ia_TB := ia_w_tb (p := 1366) (by decide +kernel) (by intro z; cases z) (by decide +kernel)
theorem ia_own18 : ia_own 18 = R_law := by decide +kernel
theorem ex_in0 : vp_in (0 : Int32) 1 := by
  rintro (z | z)
  · exact absurd z (by decide)
  · exact absurd z (by decide)
theorem ex_long (x : Int64) : Int64.ofNat x.toBitVec.toNat = x := by
  apply Int64.toBitVec_inj.mp
  show BitVec.ofNat 64 x.toBitVec.toNat = x.toBitVec
  exact BitVec.ofNat_toNat _ _ |>.trans (BitVec.setWidth_eq _)
theorem ex_sh204 : cm_sh 204 = some (51, 1, []) := by decide +kernel
theorem ex_lawX (hl : l.stackTraces = false) {y2 y : MethodName} {cc2 cc : ByteArray} {i j jc yi pp is is2 pt ln : Nat} {df hi : Int} {os : Array Int} {tx tx2 : String} {sx sx2 bx : Nat} {p0 p1 bv : Int32} {ws : va_W} {tys : List (ClassId × FieldType)} {sz : Nat} (hF2 : ex_F2 y2 cc2 j y i) (hF : ex_F y cc jc yi pp is is2 pt ln df hi os)
    (hcall : cm_C 24 yi [.inr (.inr (some 0)), .inl p0] w (some (.inl bv), w)) (hthr : bv = 0 ∨ p1.toInt < 0 ∨ hi < p1.toInt) (hbx : (ws.map Prod.fst)[0]? = some bx) (hn : ws.length = n) (hR : ia_R sa tys (cm_s w) ws) (hsx : ∀ (B : Nat → Prop) (U : State) (H : Heap), ex_N sb B U H → vk_R RX11 is tx sx U ∧ vk_R RX11 is2 tx2 sx2 U) : Met l y2 (Cond.codeWith y2 cc2 5 (some .int) [(0, 10, 13, 13)] :: ia_TB) ex_rm2 (ex_P D sa sb tys ws sz [.ref bx, .int p0, .int p1, .ref ao]) (ia_Q D sa ws sz (some (cm_e (.inl 1)), cm_s w, n)) 1 6 (va_A ws sz) := by
  obtain ⟨g0, g1, ⟨d0, d1, d2, d3, d4, d5, d8, d9, d10, d13, d15, d16, d17, d18⟩, g2, g3, g4, g6, -, -, -⟩ := hF2
  obtain ⟨hy, hin, hd, hok, hna, hmc, hms, hci⟩ := id hF
  refine va_MetW (cc := cc2) (maxL := 5) (ret := some .int) (hh := [(0, 10, 13, 13)]) (by rw [g0]; decide +kernel) rfl ?_
  intro p e s m args below meth c s₁ B hml hv
  obtain ⟨rfl, hszz, hP, hK, hD0, N, M⟩ := hv
  subst hszz
  have hx := B.exec
  have hb := B.bytes
  have hts := atoms_spec (ws := Cond.codeWith y2 cc2 5 (some .int) [(0, 10, 13, 13)] :: ia_TB) B.pre
  have htb : ∀ w ∈ ia_TB, w.before (#[Value.ref bx, .int p0, .int p1, .ref ao]) s = true := fun w hw => hts w (List.mem_cons_of_mem _ hw)
  have htab := vx_table (x := y2) B (hts _ List.mem_cons_self)
  have hown : s.vm.findClass R_law = some m.cls := by rw [← g0]; exact findClass_of_methodNamed B.named
  have hA : ∀ q : Nat, s.heap.size ≤ q → va_A ws s.heap.size q := fun _ h => Or.inr h
  have hD := hD0.self (sz := s.heap.size)
  have hS : va_S (va_A ws s.heap.size) s.heap s.heap [] := va_S.rf
  have hl9 := lv_entry ([.ref bx, .int p0, .int p1, .ref ao]) (n := 5) (Nat.le_of_ble_eq_true rfl)
  rw [show (#[Value.ref bx, .int p0, .int p1, .ref ao] : Array Value) = ([Value.ref bx, .int p0, .int p1, .ref ao] : List Value).toArray from rfl, lg_entry_eq]
  generalize (lg_sl ([Value.ref bx, .int p0, .int p1, .ref ao]) ++ List.replicate (5 - (lg_sl ([Value.ref bx, .int p0, .int p1, .ref ao])).length) Slot.unset).toArray = ls at hl9 ⊢
  have hlv : lv_has ls 5 [(0, .ref bx), (1, .int p0), (2, .int p1), (3, .ref ao)] := hl9
  refine lv_aload_n hx hb d0 rfl (lv_at hlv 3 rfl) ?_
  refine lv_iconst (v := 0) hx hb d1 (by decide) ?_
  refine lv_aload_n hx hb d2 rfl (lv_at hlv 0 rfl) ?_
  refine lv_iload_n hx hb d3 rfl (lv_at hlv 1 rfl) ?_
  refine lv_iload_n hx hb d4 rfl (lv_at hlv 2 rfl) ?_
  have hm := ex_met (D := D) (sa := sa) (sb := sb) (tys := tys) (ws := ws) (sz := s.heap.size) (p1 := p1) hl hy hin hd hok hna hmc hms hci hcall hthr hbx hn hR hsx
  have hcb : CallB (headSpec (Cond.codeWith y2 cc2 5 (some .int) [(0, 10, 13, 13)] :: ia_TB) ex_rm2).room s ([Value.ref bx, .int p0, .int p1, .ref ao] : List Value).toArray R_law j y cc 3 (some .int) (Cond.code y cc 3 (some .int) :: ia_TB) ex_rm1 1 6 2 := callB_of (Ts := Cond.codeWith y2 cc2 5 (some .int) [(0, 10, 13, 13)] :: ia_TB) (ws' := ia_TB) 2 hts (ia_good hin) rfl rfl rfl (by rw [hy]; exact htb _ ex_i11) (htb _ g2) ⟨by rw [hy]; decide, by rw [hy]; decide, g6⟩ ⟨by show 40 + 1 ≤ 42; decide, by show 8 + (3 + 11) + 4000 ≤ 4400; decide⟩
  have hcell : ∃ cellB : Cell, s.heap[bx]? = some cellB ∧ cellB.vm.isStatics = false ∧ s.vm.findClass RX11 = some cellB.cls := by
    obtain ⟨sh0, hg0, hg1⟩ := lx_sh0
    obtain ⟨c0, f1, f2⟩ := lx_cls w hg0
    obtain ⟨e1, hw, hcc⟩ := hR.at f1 (by omega) hbx
    obtain ⟨vs0, rfl, -⟩ := hcc.1 (by omega)
    rw [f2, hg1] at hw
    exact va_recv (ci := 11) hK hP rfl hw
  have hr : vx_Run p l e (headSpec (Cond.codeWith y2 cc2 5 (some .int) [(0, 10, 13, 13)] :: ia_TB) ex_rm2).room s m ([Value.ref bx, .int p0, .int p1, .ref ao] : List Value).toArray below meth c s.heap [] 0 0 1 6 (F0 m 5 ls [.int p1, .int p0, .ref bx, .int 0, .ref ao]) [.int 0, .ref ao] (fun _ _ _ => False) (ex_X D sa ws s.heap.size (cm_s w) n) (va_A ws s.heap.size) :=
    vx_runV (As := [.int p0, .int p1]) (rest := [.int 0, .ref ao]) (Ts := Cond.codeWith y2 cc2 5 (some .int) [(0, 10, 13, 13)] :: ia_TB) (cc := cc2) (nL := 5) (own := R_law) (C := RX11) ⟨hx, hb, hml, hown, hts⟩ hm ⟨hcb, htb _ g3, htb _ g4⟩ ⟨ex_blind, hcell, ex_pre N M hK hP hD hS hA⟩ rfl rfl hlv.1 rfl (lv_room (Nat.le_of_ble_eq_true rfl)) d5 ⟨by show 0 + 1 ≤ 1; decide, by show 0 + 6 ≤ 6; decide⟩
  intro T hT X
  rcases hr T hT X with ⟨v, st₀, t, T', L9, h0, X', hL, e1, e2, hff, st⟩ | ⟨q9, st₀, t, T', L9, E9, ce, h0, X', hL, e1, e2, ⟨rfl, ⟨ws', tys', f2, f3, f4, f5, f6, f7⟩, hz, hk⟩, hce, hcv, hcl, st⟩
  · exact hff.elim
  · rw [h0] at hz hk
    have hvm : s.vm.Alike t.vm := by rw [← e2]; exact X'.warmed.alike
    have hS' : va_S (va_A ws s.heap.size) s.heap T'.heap ([] ++ L9) := ⟨by rw [e1]; exact hz, fun q h1 h2 => by rw [e1]; exact hk q h1 h2, fun q hq => hL q (by simpa using hq)⟩
    have hW : vx_W p l e (headSpec (Cond.codeWith y2 cc2 5 (some .int) [(0, 10, 13, 13)] :: ia_TB) ex_rm2).room s m ([Value.ref bx, .int p0, .int p1, .ref ao] : List Value).toArray below meth c T'.heap ([] ++ L9) (0 + 1) (0 + 6) (MQ below (ia_Q D sa ws s.heap.size (some (cm_e (.inl 1)), cm_s w, n)) ([Value.ref bx, .int p0, .int p1, .ref ao] : List Value).toArray s 1 6 (va_A ws s.heap.size)) (F0 m 5 ls [.int 0, .ref ao]) q9 := by
      refine vx_catch (own := R_law) (name := ex_E) (E := ex_E) (ce := ce) hown ⟨0, 10, 13, 13⟩ [] (htab.trans rfl) (by decide) (by decide) (htb _ ex_c13) (ex_nw_use rfl M.2.2.1) (by rw [e1]; exact hce) hcv hcl ?_
      refine lv_astore (i := 4) (lv' := [(4, .ref q9), (0, .ref bx), (1, .int p0), (2, .int p1), (3, .ref ao)]) hx hb d13 hlv (by decide) rfl (fun ls hl => ?_)
      refine lv_iconst (v := 1) hx hb d15 (by decide) ?_
      exact W.iret (cells := 1) (slots := 6) hx hb B.returns (ia_fin (r := some (cm_e (.inl 1))) ⟨1, rfl, Nat.le_refl _, Nat.le_refl _⟩ (va_K.moved hvm.symm f6) (by rw [e1]; exact f5) f7 hS' f2 f4 f3) hS'.2.2 d16 B.notSynchronized
    obtain ⟨t2, a1, b1⟩ := hW T' rfl X'
    exact ⟨t2, st.trans a1, b1⟩
theorem ex_lawN {y2 y : MethodName} {cc2 : ByteArray} {i j py yc : Nat} {bx : Nat} {p0 p1 x : Int32} {ws : va_W} {tys : List (ClassId × FieldType)} {sz : Nat} (hF2 : ex_F2 y2 cc2 j y i) (hok : ia_okI 18 (j, 1, yc, 0, 0, py) = true) (hna : ia_na yc = 3) (hm0 : ia_mc yc = 0) (hm1 : ia_ms yc = 0) (hci : ia_cls yc = 11)
    (hcall : cm_C 24 yc (.inr (.inr (some 0)) :: [p0, p1].map .inl) w (some (.inl x), w)) (hbx : (ws.map Prod.fst)[0]? = some bx) (hao : (ws.map Prod.fst)[204]? = some ao) (hn : ws.length = n) (hR : ia_R sa tys (cm_s w) ws) : Met l y2 (Cond.codeWith y2 cc2 5 (some .int) [(0, 10, 13, 13)] :: ia_TB) ex_rm2 (ex_P D sa sb tys ws sz [.ref bx, .int p0, .int p1, .ref ao]) (ia_Q D sa ws sz (some (cm_e (.inl 0)), cm_s (cm_u2 w 204 0 x.toInt64), n)) 1 6 (va_A ws sz) := by
  obtain ⟨g0, g1, ⟨d0, d1, d2, d3, d4, d5, d8, d9, d10, d13, d15, d16, d17, d18⟩, g2, g3, g4, g6, -, -, -⟩ := hF2
  refine va_MetW (cc := cc2) (maxL := 5) (ret := some .int) (hh := [(0, 10, 13, 13)]) (by rw [g0]; decide +kernel) rfl ?_
  intro p e s m args below meth c s₁ B hml hv
  obtain ⟨rfl, hszz, hP, hK, hD0, N, M⟩ := hv
  subst hszz
  have hx := B.exec
  have hb := B.bytes
  have hts := atoms_spec (ws := Cond.codeWith y2 cc2 5 (some .int) [(0, 10, 13, 13)] :: ia_TB) B.pre
  have htb : ∀ w ∈ ia_TB, w.before (#[Value.ref bx, .int p0, .int p1, .ref ao]) s = true := fun w hw => hts w (List.mem_cons_of_mem _ hw)
  have hown : s.vm.findClass R_law = some m.cls := by rw [← g0]; exact findClass_of_methodNamed B.named
  have hA : ∀ q : Nat, s.heap.size ≤ q → va_A ws s.heap.size q := fun _ h => Or.inr h
  have hD := hD0.self (sz := s.heap.size)
  have hS : va_S (va_A ws s.heap.size) s.heap s.heap [] := va_S.rf
  have hl9 := lv_entry ([.ref bx, .int p0, .int p1, .ref ao]) (n := 5) (Nat.le_of_ble_eq_true rfl)
  rw [show (#[Value.ref bx, .int p0, .int p1, .ref ao] : Array Value) = ([Value.ref bx, .int p0, .int p1, .ref ao] : List Value).toArray from rfl, lg_entry_eq]
  generalize (lg_sl ([Value.ref bx, .int p0, .int p1, .ref ao]) ++ List.replicate (5 - (lg_sl ([Value.ref bx, .int p0, .int p1, .ref ao])).length) Slot.unset).toArray = ls at hl9 ⊢
  have hlv : lv_has ls 5 [(0, .ref bx), (1, .int p0), (2, .int p1), (3, .ref ao)] := hl9
  refine lv_aload_n hx hb d0 rfl (lv_at hlv 3 rfl) ?_
  refine lv_iconst (v := 0) hx hb d1 (by decide) ?_
  refine lv_aload_n hx hb d2 rfl (lv_at hlv 0 rfl) ?_
  refine lv_iload_n hx hb d3 rfl (lv_at hlv 1 rfl) ?_
  refine lv_iload_n hx hb d4 rfl (lv_at hlv 2 rfl) ?_
  obtain ⟨k1, k2, k3, k4, k5, k6⟩ := ia_ok1v hok
  obtain ⟨kk, hk1, hk2⟩ := ia_pred k6
  obtain ⟨e1, e2, e3, e4, e5, e6, e7, e8⟩ := ia_okM_eq k1
  rw [ia_own18] at k2
  have hS' : ia_S sa (ws.map Prod.fst) (cm_es (.inr (.inr (some 0)) :: [p0, p1].map .inl)) (.ref bx :: [p0, p1].map Value.int) := ⟨_, _, rfl, ⟨bx, hbx, rfl⟩, lx_ints sa _ _⟩
  have hmet := cm_met 24 yc _ w _ hcall k1 n l D sa (.ref bx :: [p0, p1].map Value.int) ws tys s.heap.size hS' hn hR
  have hcb : CallB (headSpec (Cond.codeWith y2 cc2 5 (some .int) [(0, 10, 13, 13)] :: ia_TB) ex_rm2).room s ([Value.ref bx, .int p0, .int p1, .ref ao] : List Value).toArray R_law j (ia_nm yc) (ia_code yc) (ia_maxL yc) (ia_ret yc) (ia_ws yc) (ia_rm 24 yc) (ia_mc yc) (ia_ms yc) kk := callB_of (Ts := Cond.codeWith y2 cc2 5 (some .int) [(0, 10, 13, 13)] :: ia_TB) (ws' := ia_TB) kk hts (ia_good e2) (by rw [ia_ws, e1]) rfl rfl (htb _ e5) (htb _ k2) ⟨e6, e7, hk2⟩ ⟨by show 24 + 1 ≤ 42; decide, by show 8 + (ia_maxL yc + 11) + 100 * 24 ≤ 4400; omega⟩
  have hcell : ∃ cellB : Cell, s.heap[bx]? = some cellB ∧ cellB.vm.isStatics = false ∧ s.vm.findClass (ia_nm yc).cls = some cellB.cls := by
    obtain ⟨sh0, hg0, hg1⟩ := lx_sh0
    obtain ⟨c0, f1, f2⟩ := lx_cls w hg0
    obtain ⟨e1, hw, hcc⟩ := hR.at f1 (by omega) hbx
    obtain ⟨vs0, rfl, -⟩ := hcc.1 (by omega)
    rw [f2, hg1] at hw
    have hz := va_recv (ci := 11) hK hP rfl hw
    rw [e3, hci, ia_own11]
    exact hz
  refine ia_after (va_runV (As := [p0, p1].map Value.int) (rest := [.int 0, .ref ao]) (Ts := Cond.codeWith y2 cc2 5 (some .int) [(0, 10, 13, 13)] :: ia_TB) (cc := cc2) (nL := 5) (own := R_law) ⟨hx, hb, hml, hown, hts⟩ hmet ⟨hcb, htb _ k3, htb _ k4⟩ ⟨ia_blind, hcell, ia_pre N hK hP hD hS hA⟩ rfl (by show 2 = kk; omega) hlv.1 rfl (lv_room (Nat.le_of_ble_eq_true rfl)) d5 ⟨by rw [hm0]; show 0 + 0 ≤ 1; decide, by rw [hm1]; show 0 + 0 ≤ 6; decide⟩) hS (ia_free hD hS hA) (fun ov ws' tys' H1 locs1 q1 q2 q3 q4 q5 q6 q7 q8 => ?_)
  cases ov with
  | none => cases q1
  | some v =>
    obtain ⟨z, rfl, z1, z2⟩ := q1
    have hz0 : z = x := ia_E_inj (Nat.le_antisymm z2 z1)
    subst hz0
    refine lv_i2l hx hb d8 rfl ?_
    obtain ⟨x1, hx1⟩ := q3
    have hao' : (ws'.map Prod.fst)[204]? = some ao := by rw [hx1]; exact ia_app_mono _ _ hao
    have q4 : ia_R sa tys' (cm_s w) ws' := q4
    obtain ⟨e0, hw, hc⟩ := q4.at (cm_s_get ex_sh204) (show (51 : Nat) ≠ 99 by decide) hao'
    obtain ⟨cA, f, rfl, hm, hf⟩ := hc.2.2.1 rfl
    obtain ⟨t0, ht0⟩ := ia_mem_at hm
    have hput : ia_set2 (cm_s w) 204 (51, 1, ia_set2 (cm_tab 1 (fun i => cm_e (cm_v w 204 i (cm_code (51, 1, []) i)))) 0 (cm_e (.inr (.inl z.toInt64)))) = cm_s (cm_u2 w 204 0 z.toInt64) := cm_s_put (c := (51, 1, [])) ex_sh204 (by decide) (v := .inr (.inl z.toInt64)) rfl
    refine va_last hx hb q6 q5 q7 q8 204 t0 hw ht0 (i := 0) ex_in0 d9 (fun H2 locs2 r1 r2 r3 => ?_)
    have hfst := ia_fst_set (e := .inl (cA, 1, .inr (.inl (vp_updL f (0 : Int32).toNatClampNeg z.toInt64)))) hw
    have hR2 : ia_R sa tys' (cm_s (cm_u2 w 204 0 z.toInt64)) (ws'.set 204 (ao, .inl (cA, 1, .inr (.inl (vp_updL f (0 : Int32).toNatClampNeg z.toInt64))))) := by
      rw [← hput]
      refine q4.set hw ?_
      refine ⟨fun q => absurd q (by show ¬ 51 < 50; omega), fun q => absurd q (by show ¬ 51 = 50; omega), fun _ => ⟨cA, _, rfl, hm, fun jj a' hj hlt => ?_⟩, fun q => absurd q (by show ¬ 51 = 52; omega), fun q => absurd q (by show ¬ 51 = 53; omega), fun q => absurd q (by show ¬ 51 = 54; omega), fun q => absurd q (by show ¬ 51 = 55; omega)⟩
      have hj : ia_get2 (ia_set2 (cm_tab 1 (fun i => cm_e (cm_v w 204 i (cm_code (51, 1, []) i)))) 0 (cm_e (.inr (.inl z.toInt64)))) jj = some a' := hj
      rcases ia_get2_set hj with ⟨r1, r2⟩ | ⟨hne, hj'⟩
      · rw [r2, r1, show (0 : Int32).toNatClampNeg = 0 from rfl, pk_uLs]
        show Value.long z.toInt64 = .long (Int64.ofNat z.toInt64.toBitVec.toNat)
        rw [ex_long]
      · rw [show (0 : Int32).toNatClampNeg = 0 from rfl, pk_uLn hne]; exact hf _ _ hj' hlt
    refine lv_goto (tgt := 17) hx hb d10 (by decide) ?_
    refine lv_iconst (v := 0) hx hb d17 (by decide) ?_
    refine W.widen (k := 1) (n := 6) (by rw [hm0]; decide) (by rw [hm1]; decide) ?_
    exact W.iret (cells := 1) (slots := 6) hx hb B.returns (ia_fin (r := some (cm_e (.inl 0))) ⟨0, rfl, Nat.le_refl _, Nat.le_refl _⟩ q6 r1 r2 r3 (by rw [List.length_set]; exact q2) hR2 ⟨x1, by rw [hfst, hx1]⟩) r3.2.2 d18 B.notSynchronized
/-- the law's line: its own method answers -/
theorem ex_line1 (C0 : lw_At p s m meth c b L xs) (N : ia_N sa (fun q : Nat => s.heap.size ≤ q) s s.heap) (M : ex_N sb (fun q : Nat => s.heap.size ≤ q) s s.heap) {y2 y : MethodName} {cc2 : ByteArray} {i j : Nat} {p0 p1 kv : Int32} {w' : cm_W} (hF2 : ex_F2 y2 cc2 j y i)
    (hm : ∀ (ws : va_W) (tys : List (ClassId × FieldType)) (sz : Nat), (ws.map Prod.fst)[0]? = some ax → (ws.map Prod.fst)[204]? = some ao → ws.length = n → ia_R sa tys (cm_s w) ws → Met l y2 (Cond.codeWith y2 cc2 5 (some .int) [(0, 10, 13, 13)] :: ia_TB) ex_rm2 (ex_P D sa sb tys ws sz [.ref ax, .int p0, .int p1, .ref ao]) (ia_Q D sa ws sz (some (cm_e (.inl kv)), cm_s w', n)) 1 6 (va_A ws sz)) (hax : as0[0]? = some ax) (hao : as0[204]? = some ao) (hd : decode code pc = .ok (.invokestatic i, 3)) (hc : nc + 1 ≤ 601024) (hs : ns + 6 ≤ 7293034)
    (k : lx_W p l e s m below meth c b D sa as0 lx (pc + 3) [.int kv] (cm_s w') n (nc + 1) (ns + 6)) : lx_W p l e s m below meth c b D sa as0 lx pc [.ref ao, .int p1, .int p0, .ref ax] (cm_s w) n nc ns := by
  obtain ⟨hx, hb, hr, hml, hown, hts, hX, hbl, hlocks, hgv⟩ := id C0
  intro H locs ws tys ls hl9 hG
  obtain ⟨hK, hP, hD, hS, hn, hR, x0, hx0⟩ := id hG
  have hA : ∀ q : Nat, s.heap.size ≤ q → (fun q : Nat => s.heap.size ≤ q) q := fun _ h => h
  have hb0 : (ws.map Prod.fst)[0]? = some ax := by rw [hx0]; exact ia_app_mono _ _ hax
  have hb4 : (ws.map Prod.fst)[204]? = some ao := by rw [hx0]; exact ia_app_mono _ _ hao
  have hm := hm ws tys H.size hb0 hb4 hn hR
  obtain ⟨g0, g1, -, g2, g3, g4, g6, w1, w2, w4⟩ := id hF2
  have hGood : GoodIn lw_tbl (va_wsS R_law i y2 (Cond.codeWith y2 cc2 5 (some .int) [(0, 10, 13, 13)] :: ia_TB)) := by
    intro z hz
    have hz' : z ∈ ia_TB := by
      unfold va_wsS at hz
      rcases List.mem_append.mp hz with hz | hz
      · simp only [List.mem_cons, List.not_mem_nil, or_false] at hz
        rcases hz with rfl | rfl | rfl
        · exact w1
        · exact w2
        · rw [g0]; exact ex_i0
      · rcases List.mem_cons.mp hz with rfl | q
        · exact g1
        · exact q
    exact ⟨(List.mem_filter.mp hz').1, good_of_word (List.mem_filter.mp hz').2⟩
  have cw := vx_cwSW (R := room_1) (args := #[Value.ref b]) (s := s) (own := R_law) (index := i) (mc := 1) (ms := 6) (rm := ex_rm2) (Ts := lw_tbl) (ws' := ia_TB) 4 hts hGood rfl rfl rfl ⟨by rw [g0]; decide, by rw [g0]; decide, w4⟩ ⟨by show 42 + 1 ≤ 2048; decide, by show 8 + (5 + 11) + 4400 ≤ 84000; decide⟩
  refine ia_after (vx_runSW (As := [.ref ax, .int p0, .int p1, .ref ao]) (rest := []) (Ts := lw_tbl) (cc := code) (nL := 7) (own := R_law) ⟨hx, hb, hml, hown, hts⟩ hm cw ⟨ex_blind, ex_pre N M hK hP hD hS hA⟩ rfl rfl hl9.1 rfl (lv_room (Nat.le_of_ble_eq_true rfl)) hd ⟨hc, hs⟩) hS (ia_free hD hS hA) (fun ov ws' tys' H1 locs1 q1 q2 q3 q4 q5 q6 q7 q8 => ?_)
  obtain ⟨x1, hx1⟩ := q3
  cases ov with
  | none => cases q1
  | some v =>
    obtain ⟨z, rfl, z1, z2⟩ := q1
    have hz1 : z = kv := ia_E_inj (Nat.le_antisymm z2 z1)
    subst hz1
    exact k H1 locs1 ws' tys' ls hl9 ⟨q6, q5, q7, q8, q2, q4, x0 ++ x1, by rw [hx1, hx0, List.append_assoc]⟩
/-- the printed line -/
def ex_co (pc i iy te : Nat) (o : Int) : Prop := decode code pc = .ok (.aload_n 1, 1) ∧ (∀ j, j < 2 → lx_a (pc + 1 + 6 * j) (0 + j + 1)) ∧ decode code (pc + 1 + 6 * 2) = .ok (.aload_n 3, 1) ∧ decode code (pc + 1 + 6 * 2 + 1) = .ok (.invokestatic i, 3) ∧ decode code (pc + 1 + 6 * 2 + 1 + 3) = .ok (.istore 5, 2) ∧ decode code (pc + 1 + 6 * 2 + 1 + 3 + 2) = .ok (.aload_n 2, 1) ∧ (∀ j, j < 2 → lx_a (pc + 1 + 6 * 2 + 1 + 3 + 2 + 1 + 6 * j) (0 + j + 1)) ∧ decode code (pc + 1 + 6 * 2 + 1 + 3 + 2 + 1 + 6 * 2) = .ok (.invokevirtual iy, 3) ∧ decode code (pc + 1 + 6 * 2 + 1 + 3 + 2 + 1 + 6 * 2 + 3) = .ok (.istore 6, 2) ∧ decode code (pc + 1 + 6 * 2 + 1 + 3 + 2 + 1 + 6 * 2 + 3 + 2) = .ok (.goto o, 3) ∧ ((pc + 1 + 6 * 2 + 1 + 3 + 2 + 1 + 6 * 2 + 3 + 2 : Nat) : Int) + o = (te : Int)
noncomputable def ex_cob (pc i iy te : Nat) (o : Int) : Bool := lx_dc pc (.aload_n 1) 1 && ((List.range 2).all (fun j => lx_ab (pc + 1 + 6 * j) (0 + j + 1)) && (lx_dc (pc + 1 + 6 * 2) (.aload_n 3) 1 && (lx_dc (pc + 1 + 6 * 2 + 1) (.invokestatic i) 3 && (lx_dc (pc + 1 + 6 * 2 + 1 + 3) (.istore 5) 2 && (lx_dc (pc + 1 + 6 * 2 + 1 + 3 + 2) (.aload_n 2) 1 && ((List.range 2).all (fun j => lx_ab (pc + 1 + 6 * 2 + 1 + 3 + 2 + 1 + 6 * j) (0 + j + 1)) && (lx_dc (pc + 1 + 6 * 2 + 1 + 3 + 2 + 1 + 6 * 2) (.invokevirtual iy) 3 && (lx_dc (pc + 1 + 6 * 2 + 1 + 3 + 2 + 1 + 6 * 2 + 3) (.istore 6) 2 && (lx_dc (pc + 1 + 6 * 2 + 1 + 3 + 2 + 1 + 6 * 2 + 3 + 2) (.goto o) 3 && decide (((pc + 1 + 6 * 2 + 1 + 3 + 2 + 1 + 6 * 2 + 3 + 2 : Nat) : Int) + o = (te : Int)))))))))))
theorem ex_cob_ok {pc i iy te : Nat} {o : Int} (h : ex_cob pc i iy te o = true) : ex_co pc i iy te o := by
  unfold ex_cob lx_dc at h
  simp only [Bool.and_eq_true, decide_eq_true_eq] at h
  obtain ⟨a1, a2, a3, a4, a5, a6, a7, a8, a9, a10, a11⟩ := h
  exact ⟨a1, fun j hj => lx_ab_ok (List.all_eq_true.mp a2 j (List.mem_range.mpr hj)), a3, a4, a5, a6, fun j hj => lx_ab_ok (List.all_eq_true.mp a7 j (List.mem_range.mpr hj)), a8, a9, a10, a11⟩
/-- what the law's own method does: its answer, the world that it leaves -/
def ex_D (l : Launch) (D : va_G) (sa : Nat × Nat) (sb : Nat → Nat) (y2 : MethodName) (cc2 : ByteArray) (ax ao : Nat) : Prop := ∀ (w : cm_W) (p0 p1 : Int32), sv_w sg w → ∃ (kv : Int32) (w' : cm_W), w'.1 = w.1 ∧ (∀ k i, k ≠ 204 → w'.2 k i = w.2 k i) ∧ ∀ (ws : va_W) (tys : List (ClassId × FieldType)) (sz : Nat), (ws.map Prod.fst)[0]? = some ax → (ws.map Prod.fst)[204]? = some ao → ws.length = 205 → ia_R sa tys (cm_s w) ws → Met l y2 (Cond.codeWith y2 cc2 5 (some .int) [(0, 10, 13, 13)] :: ia_TB) ex_rm2 (ex_P D sa sb tys ws sz [.ref ax, .int p0, .int p1, .ref ao]) (ia_Q D sa ws sz (some (cm_e (.inl kv)), cm_s w', 205)) 1 6 (va_A ws sz)
/-- and what the reference does -/
def ex_M2 (yy : Nat) : Prop := ∀ {r : Nat} {w : cm_W} {a1 a2 : Int32}, r ≤ 4000 → jIw r w → ∃ x w', cm_C 24 yy [.inr (.inr (some 184)), .inl a1, .inl a2] w (some (.inl x), w') ∧ jIw (r + 1) w' ∧ w'.1 0 1 = w.1 0 1 ∧ w'.1 184 2 = w.1 184 2 ∧ jFl w w' ∧ jF2 w w' ∧ u3_F u3_Bf w w'
theorem im_person2 : ex_M2 161 := fun hr h => by
  obtain ⟨x, w', a, b, c, d, e⟩ := im_person hr h
  exact ⟨x, w', a, b, c, d, e, u2_q (u2_ok (y := 161) (by decide +kernel) a), u3_okf (y := 161) (by decide +kernel) a⟩
theorem im_debt2 : ex_M2 162 := fun hr h => by
  obtain ⟨x, w', a, b, c, d, e⟩ := im_debt hr h
  exact ⟨x, w', a, b, c, d, e, u2_q (u2_ok (y := 162) (by decide +kernel) a), u3_okf (y := 162) (by decide +kernel) a⟩
theorem ex_line (C0 : lw_At p s m meth c b L xs) (N : ia_N sa (fun q : Nat => s.heap.size ≤ q) s s.heap) (M : ex_N sb (fun q : Nat => s.heap.size ≤ q) s s.heap) (hL : q + 6 ≤ L) (hL2 : L ≤ 3072) (hax : as0[0]? = some ax) (ham : as0[184]? = some am) (hao : as0[204]? = some ao) {y2 y : MethodName} {cc2 : ByteArray} {i j iy py yy te : Nat} {o : Int} (hF2 : ex_F2 y2 cc2 j y i) (hD : ex_D l D sa sb y2 cc2 ax ao) (hM : ex_M2 yy) (hq : ex_co pc i iy te o) (hok : ia_okI 18 (iy, 1, yy, 0, 0, py) = true) (hna : 3 = ia_na yy) (hci : ia_cls yy = 12) (hm0 : ia_mc yy = 0) (hm1 : ia_ms yy = 0) (hr : r ≤ 3000) (hI : jIf r w) (hc : nc + 1 ≤ 601024) (hs : ns + 6 ≤ 7293034)
    (kk : ∀ w2, jIf (r + 2) w2 → lx_W p l e s m below meth c b D sa as0 (lx_lv b ax am ao q) te [] (cm_s w2) 205 (nc + 1) (ns + 6)) : lx_W p l e s m below meth c b D sa as0 (lx_lv b ax am ao q) pc [] (cm_s w) 205 nc ns := by
  obtain ⟨hx, hb, -⟩ := id C0
  obtain ⟨a1, a2, a3, a4, a5, a6, a7, a8, a9, a10, a11⟩ := hq
  obtain ⟨hl0, hl1, hl2, hl3, hl4⟩ := lx_mem b ax am ao q
  obtain ⟨⟨hI1, hI2⟩, hI3⟩ := id hI
  obtain ⟨kv, w1, hw1, hw2, hmm⟩ := hD w (xs (q + (0 + 0 + 1))) (xs (q + (0 + 1 + 1))) hI1.1
  have h1 : jIw (r + 1) w1 := jIw_fr (fun k i _ => by rw [hw1]) (fun k i => by rw [hw1]; exact hI1.1 k i) hI1
  obtain ⟨x, w2, hC2, h2, o1, o2, o3, o4, o5⟩ := hM (r := r + 1) (w := w1) (a1 := xs (q + (0 + 0 + 1))) (a2 := xs (q + (0 + 1 + 1))) (by omega) h1
  have hJ3 : jFt w1 := by
    unfold jFt
    rw [hw1]
    exact hI3
  have hJ : jIf (r + 2) w2 := ⟨⟨h2, jTw_fl hI2 (by rw [o1, o2, hw1]; exact hI2.1) (fun k i _ => by rw [hw1]) o3 (fun k i hq => hw2 k i (by unfold jQ2 at hq; omega)) o4⟩, jFt_f hJ3 o5⟩
  intro H locs ws tys ls hl hG
  refine lv_aload_n hx hb a1 rfl (hl.2.2 _ hl1) ?_
  refine lx_args (lx := lx_lv b ax am ao q) C0 hL hL2 hl0 hl4 2 0 [.ref ax] (pc + 1) (by omega) a2 ?_ H locs ws tys ls hl hG
  intro H locs ws tys ls hl hG
  refine lv_aload_n hx hb a3 rfl (hl.2.2 _ hl3) ?_
  refine ex_line1 (lx := lx_lv b ax am ao q) (p0 := xs (q + (0 + 0 + 1))) (p1 := xs (q + (0 + 1 + 1))) C0 N M hF2 hmm hax hao a4 hc hs ?_ H locs ws tys ls hl hG
  intro H locs ws tys ls hl hG
  refine lv_istore (i := 5) (lv' := (5, .int kv) :: lx_lv b ax am ao q) hx hb a5 hl (by decide) rfl (fun ls hl => ?_)
  refine lv_aload_n hx hb a6 rfl (hl.2.2 _ (List.mem_cons_of_mem _ hl2)) ?_
  refine lx_args (lx := (5, .int kv) :: lx_lv b ax am ao q) C0 hL hL2 (List.mem_cons_of_mem _ hl0) (List.mem_cons_of_mem _ hl4) 2 0 [.ref am] (pc + 1 + 6 * 2 + 1 + 3 + 2 + 1) (by omega) a7 ?_ H locs ws tys ls hl hG
  refine lx_call (lx := (5, .int kv) :: lx_lv b ax am ao q) C0 N (as := lx_as xs q 0 2) (rest := []) hok a8 (by decide) hC2 ham (lx_c184 w1 hci) (by rw [lx_as_len]; exact hna) hm0 hm1 ⟨hc, hs⟩ ?_
  intro H locs ws tys ls hl hG
  refine lv_istore (i := 6) (lv' := (6, .int x) :: (5, .int kv) :: lx_lv b ax am ao q) hx hb a9 hl (by decide) rfl (fun ls hl => ?_)
  refine lv_goto (tgt := te) hx hb a10 a11 ?_
  exact kk w2 hJ H locs ws tys ls (lv_sub hl [2, 3, 4, 5, 6] rfl) hG
end EX2

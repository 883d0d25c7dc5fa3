/-! ## the law's own method catches -/
section EX2
variable {p : Program} {l : Launch} {e : Env} {s : State} {m : MethodId} {below : List Frame} {meth : Method} {c : Code} {b L : Nat} {xs : Nat → Int32} {D : va_G} {sa sb : Nat × Nat} {as0 : List Nat} {lx : List (Nat × Value)} {pc : Nat} {n nc ns ax am ao : Nat}
def ex_code2 (cc : ByteArray) (j : Nat) : Prop := decode cc 0 = .ok (.aload_n 3, 1) ∧ decode cc 1 = .ok (.iconst 0, 1) ∧ decode cc 2 = .ok (.aload_n 0, 1) ∧ decode cc 3 = .ok (.iload_n 1, 1) ∧ decode cc 4 = .ok (.iload_n 2, 1) ∧ decode cc 5 = .ok (.invokevirtual j, 3) ∧ decode cc 13 = .ok (.astore 4, 2) ∧ decode cc 15 = .ok (.iconst 1, 1) ∧ decode cc 16 = .ok (.ireturn, 1)
def ex_F (y : MethodName) (cc : ByteArray) (jc yi pp is : Nat) : Prop := y.cls = RX11 ∧ Cond.code y cc 3 (some .int) ∈ ia_TB ∧ ex_code cc jc is ∧ ia_okI 11 (jc, 1, yi, 0, 0, pp) = true ∧ ia_na yi = 2 ∧ ia_mc yi = 0 ∧ ia_ms yi = 0 ∧ ia_cls yi = 11
def ex_F2 (y2 : MethodName) (cc2 : ByteArray) (j : Nat) (y : MethodName) (i : Nat) : Prop := y2.cls = R_law ∧ Cond.codeWith y2 cc2 5 (some .int) [(0, 10, 13, 13)] ∈ ia_TB ∧ ex_code2 cc2 j ∧ Cond.methodLink R_law j y ∈ ia_TB ∧ Cond.instanceMethod y ∈ ia_TB ∧ Cond.selects RX11 y y ∈ ia_TB ∧ (parseMethodDescriptor y.desc).map (fun d => d.parameters.length) = some 2 ∧ Cond.methodLink R_law i y2 ∈ ia_TB ∧ Cond.static y2 ∈ ia_TB ∧ (parseMethodDescriptor y2.desc).map (fun d => d.parameters.length) = some 4
set_option maxRecDepth 100000 in
theorem ex_i11 : Cond.initialized RX11 ∈ ia_TB := ia_w_tb (p := 114) (by decide +kernel) (by intro z; cases z) (by decide +kernel)
set_option maxRecDepth 100000 in
theorem ex_i0 : Cond.initialized R_law ∈ ia_TB := ia_w_tb (p := 113) (by decide +kernel) (by intro z; cases z) (by decide +kernel)
set_option maxRecDepth 100000 in
theorem ex_c13 : Cond.classLink R_law 13 ex_E ∈ ia_TB := ia_w_tb (p := 1366) (by decide +kernel) (by intro z; cases z) (by decide +kernel)
theorem ex_law (hl : l.stackTraces = false) {y2 y : MethodName} {cc2 cc : ByteArray} {i j jc yi pp is : Nat} {tx : String} {sx bx : Nat} {p0 p1 : Int32} {q : Nat × Nat} {σ σ' : ia_H} {n' : Nat} {ws : va_W} {tys : List (ClassId × FieldType)} {sz : Nat} (hF2 : ex_F2 y2 cc2 j y i) (hF : ex_F y cc jc yi pp is)
    (hcall : ia_call 7 yi [.inr (.inr (.inl (some 0))), .inl q] σ n = some (some (.inl (2147483648, 2147483648)), σ', n')) (hc0 : ∃ c0, ia_get2 σ 0 = some c0 ∧ c0.1 = 11) (h1 : q.1 ≤ ia_E p0) (h2 : ia_E p0 ≤ q.2) (hbx : (ws.map Prod.fst)[0]? = some bx) (hn : ws.length = n) (hR : ia_R sa tys σ ws) (hsx : ∀ (B : Nat → Prop) (U : State) (H : Heap), ex_N sb B U H → vk_R RX11 is tx sx U) : Met l y2 (Cond.codeWith y2 cc2 5 (some .int) [(0, 10, 13, 13)] :: ia_TB) ex_rm2 (ex_P D sa sb tys ws sz [.ref bx, .int p0, .int p1, .ref ao]) (ia_Q D sa ws sz (some (.inl (2147483649, 2147483649)), σ', n')) 1 6 (va_A ws sz) := by
  obtain ⟨g0, g1, ⟨d0, d1, d2, d3, d4, d5, d13, d15, d16⟩, g2, g3, g4, g6, -, -, -⟩ := hF2
  obtain ⟨hy, hin, hd, hok, hna, hmc, hms, hci⟩ := id hF
  refine va_MetW (cc := cc2) (maxL := 5) (ret := some .int) (hh := [(0, 10, 13, 13)]) (by rw [g0]; decide +kernel) rfl ?_
  intro p e s m args below meth c s₁ B hml hv
  obtain ⟨rfl, hszz, hP, hK, hD0, N, M⟩ := hv
  subst hszz
  have hx := B.exec
  have hb := B.bytes
  have hts := atoms_spec (ws := Cond.codeWith y2 cc2 5 (some .int) [(0, 10, 13, 13)] :: ia_TB) B.pre
  have htb : ∀ w ∈ ia_TB, w.before (#[Value.ref bx, .int p0, .int p1, .ref ao]) s = true := fun w hw => hts w (List.mem_cons_of_mem _ hw)
  have htab := vx_table (x := y2) B (hts _ List.mem_cons_self)
  have hown : s.vm.findClass R_law = some m.cls := by rw [← g0]; exact findClass_of_methodNamed B.named
  have hA : ∀ q : Nat, s.heap.size ≤ q → va_A ws s.heap.size q := fun _ h => Or.inr h
  have hD := hD0.self (sz := s.heap.size)
  have hS : va_S (va_A ws s.heap.size) s.heap s.heap [] := va_S.rf
  have hl9 := lv_entry ([.ref bx, .int p0, .int p1, .ref ao]) (n := 5) (Nat.le_of_ble_eq_true rfl)
  rw [show (#[Value.ref bx, .int p0, .int p1, .ref ao] : Array Value) = ([Value.ref bx, .int p0, .int p1, .ref ao] : List Value).toArray from rfl, lg_entry_eq]
  generalize (lg_sl ([Value.ref bx, .int p0, .int p1, .ref ao]) ++ List.replicate (5 - (lg_sl ([Value.ref bx, .int p0, .int p1, .ref ao])).length) Slot.unset).toArray = ls at hl9 ⊢
  have hlv : lv_has ls 5 [(0, .ref bx), (1, .int p0), (2, .int p1), (3, .ref ao)] := hl9
  refine lv_aload_n hx hb d0 rfl (lv_at hlv 3 rfl) ?_
  refine lv_iconst (v := 0) hx hb d1 (by decide) ?_
  refine lv_aload_n hx hb d2 rfl (lv_at hlv 0 rfl) ?_
  refine lv_iload_n hx hb d3 rfl (lv_at hlv 1 rfl) ?_
  refine lv_iload_n hx hb d4 rfl (lv_at hlv 2 rfl) ?_
  have hm := ex_met (D := D) (sa := sa) (sb := sb) (tys := tys) (ws := ws) (sz := s.heap.size) (p1 := p1) hl hy hin hd hok hna hmc hms hci hcall hc0 h1 h2 hbx hn hR hsx
  have hcb : CallB (headSpec (Cond.codeWith y2 cc2 5 (some .int) [(0, 10, 13, 13)] :: ia_TB) ex_rm2).room s ([Value.ref bx, .int p0, .int p1, .ref ao] : List Value).toArray R_law j y cc 3 (some .int) (Cond.code y cc 3 (some .int) :: ia_TB) ex_rm1 1 6 2 := callB_of (Ts := Cond.codeWith y2 cc2 5 (some .int) [(0, 10, 13, 13)] :: ia_TB) (ws' := ia_TB) 2 hts (ia_good hin) rfl rfl rfl (by rw [hy]; exact htb _ ex_i11) (htb _ g2) ⟨by rw [hy]; decide, by rw [hy]; decide, g6⟩ ⟨by show 12 + 1 ≤ 14; decide, by show 8 + (3 + 11) + 1000 ≤ 1200; decide⟩
  have hcell : ∃ cellB : Cell, s.heap[bx]? = some cellB ∧ cellB.vm.isStatics = false ∧ s.vm.findClass RX11 = some cellB.cls := by
    obtain ⟨c0, hg0, hg1⟩ := hc0
    obtain ⟨e1, hw, hcc⟩ := hR.at hg0 (by omega) hbx
    obtain ⟨vs0, rfl, -⟩ := hcc.1 (by omega)
    rw [hg1] at hw
    exact va_recv (ci := 11) hK hP rfl hw
  have hr : vx_Run p l e (headSpec (Cond.codeWith y2 cc2 5 (some .int) [(0, 10, 13, 13)] :: ia_TB) ex_rm2).room s m ([Value.ref bx, .int p0, .int p1, .ref ao] : List Value).toArray below meth c s.heap [] 0 0 1 6 (F0 m 5 ls [.int p1, .int p0, .ref bx, .int 0, .ref ao]) [.int 0, .ref ao] (fun _ _ _ => False) (ex_X D sa ws s.heap.size σ' n') (va_A ws s.heap.size) :=
    vx_runV (As := [.int p0, .int p1]) (rest := [.int 0, .ref ao]) (Ts := Cond.codeWith y2 cc2 5 (some .int) [(0, 10, 13, 13)] :: ia_TB) (cc := cc2) (nL := 5) (own := R_law) (C := RX11) ⟨hx, hb, hml, hown, hts⟩ hm ⟨hcb, htb _ g3, htb _ g4⟩ ⟨ex_blind, hcell, ex_pre N M hK hP hD hS hA⟩ rfl rfl hlv.1 rfl (lv_room (Nat.le_of_ble_eq_true rfl)) d5 ⟨by show 0 + 1 ≤ 1; decide, by show 0 + 6 ≤ 6; decide⟩
  intro T hT X
  rcases hr T hT X with ⟨v, st₀, t, T', L9, h0, X', hL, e1, e2, hff, st⟩ | ⟨q9, st₀, t, T', L9, E9, ce, h0, X', hL, e1, e2, ⟨rfl, ⟨ws', tys', f2, f3, f4, f5, f6, f7⟩, hz, hk⟩, hce, hcv, hcl, st⟩
  · exact hff.elim
  · rw [h0] at hz hk
    have hvm : s.vm.Alike t.vm := by rw [← e2]; exact X'.warmed.alike
    have hS' : va_S (va_A ws s.heap.size) s.heap T'.heap ([] ++ L9) := ⟨by rw [e1]; exact hz, fun q h1 h2 => by rw [e1]; exact hk q h1 h2, fun q hq => hL q (by simpa using hq)⟩
    have hW : vx_W p l e (headSpec (Cond.codeWith y2 cc2 5 (some .int) [(0, 10, 13, 13)] :: ia_TB) ex_rm2).room s m ([Value.ref bx, .int p0, .int p1, .ref ao] : List Value).toArray below meth c T'.heap ([] ++ L9) (0 + 1) (0 + 6) (MQ below (ia_Q D sa ws s.heap.size (some (.inl (2147483649, 2147483649)), σ', n')) ([Value.ref bx, .int p0, .int p1, .ref ao] : List Value).toArray s 1 6 (va_A ws s.heap.size)) (F0 m 5 ls [.int 0, .ref ao]) q9 := by
      refine vx_catch (own := R_law) (name := ex_E) (E := ex_E) (ce := ce) hown ⟨0, 10, 13, 13⟩ [] (htab.trans rfl) (by decide) (by decide) (htb _ ex_c13) (ex_nw_use rfl M.2.2.2.1) (by rw [e1]; exact hce) hcv hcl ?_
      refine lv_astore (i := 4) (lv' := [(4, .ref q9), (0, .ref bx), (1, .int p0), (2, .int p1), (3, .ref ao)]) hx hb d13 hlv (by decide) rfl (fun ls hl => ?_)
      refine lv_iconst (v := 1) hx hb d15 (by decide) ?_
      exact W.iret (cells := 1) (slots := 6) hx hb B.returns (ia_fin (r := some (.inl (2147483649, 2147483649))) ⟨1, rfl, by decide, by decide⟩ (va_K.moved hvm.symm f6) (by rw [e1]; exact f5) f7 hS' f2 f4 f3) hS'.2.2 d16 B.notSynchronized
    obtain ⟨t2, a1, b1⟩ := hW T' rfl X'
    exact ⟨t2, st.trans a1, b1⟩
/-- the law's line: its own method answers 1 -/
theorem ex_line1 (hl : l.stackTraces = false) (C0 : lw_At p s m meth c b L xs) (N : ia_N sa (fun q : Nat => s.heap.size ≤ q) s s.heap) (M : ex_N sb (fun q : Nat => s.heap.size ≤ q) s s.heap) {y2 y : MethodName} {cc2 cc : ByteArray} {i j jc yi pp is : Nat} {tx : String} {sx : Nat} {p0 p1 : Int32} {q : Nat × Nat} {σ σ' : ia_H} {n' : Nat} (hF2 : ex_F2 y2 cc2 j y i) (hF : ex_F y cc jc yi pp is)
    (hcall : ia_call 7 yi [.inr (.inr (.inl (some 0))), .inl q] σ n = some (some (.inl (2147483648, 2147483648)), σ', n')) (hc0 : ∃ c0, ia_get2 σ 0 = some c0 ∧ c0.1 = 11) (h1 : q.1 ≤ ia_E p0) (h2 : ia_E p0 ≤ q.2) (hax : as0[0]? = some ax) (hsx : ∀ (B : Nat → Prop) (U : State) (H : Heap), ex_N sb B U H → vk_R RX11 is tx sx U) (hd : decode code pc = .ok (.invokestatic i, 3)) (hc : nc + 1 ≤ 600002) (hs : ns + 6 ≤ 7302232)
    (k : lx_W p l e s m below meth c b D sa as0 lx (pc + 3) [.int 1] σ' n' (nc + 1) (ns + 6)) : lx_W p l e s m below meth c b D sa as0 lx pc [.ref ao, .int p1, .int p0, .ref ax] σ n nc ns := by
  obtain ⟨hx, hb, hr, hml, hown, hts, hX, hbl, hlocks, hgv⟩ := id C0
  intro H locs ws tys ls hl9 hG
  obtain ⟨hK, hP, hD, hS, hn, hR, x0, hx0⟩ := id hG
  have hA : ∀ q : Nat, s.heap.size ≤ q → (fun q : Nat => s.heap.size ≤ q) q := fun _ h => h
  have hb0 : (ws.map Prod.fst)[0]? = some ax := by rw [hx0]; exact ia_app_mono _ _ hax
  have hm := ex_law (D := D) (sa := sa) (sb := sb) (tys := tys) (ws := ws) (sz := H.size) (ao := ao) (p1 := p1) hl hF2 hF hcall hc0 h1 h2 hb0 hn hR hsx
  obtain ⟨g0, g1, -, g2, g3, g4, g6, w1, w2, w4⟩ := id hF2
  have hGood : GoodIn lw_tbl (va_wsS R_law i y2 (Cond.codeWith y2 cc2 5 (some .int) [(0, 10, 13, 13)] :: ia_TB)) := by
    intro z hz
    have hz' : z ∈ ia_TB := by
      unfold va_wsS at hz
      rcases List.mem_append.mp hz with hz | hz
      · simp only [List.mem_cons, List.not_mem_nil, or_false] at hz
        rcases hz with rfl | rfl | rfl
        · exact w1
        · exact w2
        · rw [g0]; exact ex_i0
      · rcases List.mem_cons.mp hz with rfl | q
        · exact g1
        · exact q
    exact ⟨(List.mem_filter.mp hz').1, good_of_word (List.mem_filter.mp hz').2⟩
  have cw := vx_cwSW (R := room_1) (args := #[Value.ref b]) (s := s) (own := R_law) (index := i) (mc := 1) (ms := 6) (rm := ex_rm2) (Ts := lw_tbl) (ws' := ia_TB) 4 hts hGood rfl rfl rfl ⟨by rw [g0]; decide, by rw [g0]; decide, w4⟩ ⟨by show 14 + 1 ≤ 2048; decide, by show 8 + (5 + 11) + 1200 ≤ 84000; decide⟩
  refine ia_after (vx_runSW (As := [.ref ax, .int p0, .int p1, .ref ao]) (rest := []) (Ts := lw_tbl) (cc := code) (nL := 7) (own := R_law) ⟨hx, hb, hml, hown, hts⟩ hm cw ⟨ex_blind, ex_pre N M hK hP hD hS hA⟩ rfl rfl hl9.1 rfl (lv_room (Nat.le_of_ble_eq_true rfl)) hd ⟨hc, hs⟩) hS (ia_free hD hS hA) (fun ov ws' tys' H1 locs1 q1 q2 q3 q4 q5 q6 q7 q8 => ?_)
  obtain ⟨x1, hx1⟩ := q3
  cases ov with
  | none => cases q1
  | some v =>
    obtain ⟨z, rfl, z1, z2⟩ := q1
    have hz1 : z = 1 := ia_E_inj (by have z1' : 2147483649 ≤ ia_E z := z1; have z2' : ia_E z ≤ 2147483649 := z2; rw [show ia_E 1 = 2147483649 from by decide]; omega)
    subst hz1
    exact k H1 locs1 ws' tys' ls hl9 ⟨q6, q5, q7, q8, q2, q4, x0 ++ x1, by rw [hx1, hx0, List.append_assoc]⟩
/-- the printed line -/
def ex_co (pc i iy py yy t1 t2 : Nat) (o : Int) : Prop := decode code pc = .ok (.aload_n 1, 1) ∧ lx_a (pc + 1) 1 ∧ lx_a (pc + 1 + 6) 2 ∧ decode code (pc + 1 + 6 + 6) = .ok (.aload_n 3, 1) ∧ decode code (pc + 1 + 6 + 6 + 1) = .ok (.invokestatic i, 3) ∧ decode code (pc + 1 + 6 + 6 + 1 + 3) = .ok (.istore 5, 2) ∧ decode code (pc + 1 + 6 + 6 + 1 + 3 + 2) = .ok (.aload_n 2, 1) ∧ lx_a (pc + 1 + 6 + 6 + 1 + 3 + 2 + 1) 1 ∧ lx_a (pc + 1 + 6 + 6 + 1 + 3 + 2 + 1 + 6) 2 ∧ decode code (pc + 1 + 6 + 6 + 1 + 3 + 2 + 1 + 6 + 6) = .ok (.invokevirtual iy, 3) ∧ decode code (pc + 1 + 6 + 6 + 1 + 3 + 2 + 1 + 6 + 6 + 3) = .ok (.istore 6, 2) ∧ decode code (pc + 1 + 6 + 6 + 1 + 3 + 2 + 1 + 6 + 6 + 3 + 2) = .ok (.aload_n 2, 1) ∧ decode code (pc + 1 + 6 + 6 + 1 + 3 + 2 + 1 + 6 + 6 + 3 + 2 + 1) = .ok (.invokevirtual 47, 3) ∧ decode code (pc + 1 + 6 + 6 + 1 + 3 + 2 + 1 + 6 + 6 + 3 + 2 + 1 + 3) = .ok (.iload 5, 2) ∧ decode code (pc + 1 + 6 + 6 + 1 + 3 + 2 + 1 + 6 + 6 + 3 + 2 + 1 + 3 + 2) = .ok (.if_icmp .eq 5, 3) ∧ ((pc + 1 + 6 + 6 + 1 + 3 + 2 + 1 + 6 + 6 + 3 + 2 + 1 + 3 + 2 : Nat) : Int) + 5 = ((t1 : Nat) : Int) ∧ decode code t1 = .ok (.iload 5, 2) ∧ decode code (t1 + 2) = .ok (.ifCond .ne 15, 3) ∧ ((t1 + 2 : Nat) : Int) + 15 = ((t2 : Nat) : Int) ∧ decode code t2 = .ok (.goto o, 3) ∧ ((t2 : Nat) : Int) + o = ((1321 : Nat) : Int) ∧ ia_okI 18 (iy, 1, yy, 0, 0, py) = true ∧ 3 = ia_na yy ∧ ia_cls yy = 12 ∧ ia_mc yy = 0 ∧ ia_ms yy = 0
noncomputable def ex_chk (yi yy yt : Nat) (q : Nat × Nat) : Bool := match ia_call 7 yi [ia_rx, .inl q] ia_S4 205 with
  | some (some (.inl a), σ, n) => (match ia_call 7 yy [ia_ry, .inl q, .inl (0, 4294967295)] σ n with
    | some (some (.inl _), σ2, n2) => (match ia_call 7 yt [ia_ry] σ2 n2 with
      | some (some (.inl t), _, _) => Nat.beq a.1 2147483648 && (Nat.beq a.2 2147483648 && (Nat.beq t.1 2147483649 && (Nat.beq t.2 2147483649 && ((match ia_get2 σ 184 with
        | some c => Nat.beq c.1 12
        | none => false) && (match ia_get2 σ2 184 with
        | some c => Nat.beq c.1 12
        | none => false)))))
      | _ => false)
    | _ => false)
  | _ => false
theorem ex_184 {σ : ia_H} {y : Nat} (hy : ia_cls y = 12) (h : (match ia_get2 σ 184 with
        | some c => Nat.beq c.1 12
        | none => false) = true) : ∃ c0, ia_get2 σ 184 = some c0 ∧ c0.1 = ia_cls y ∧ c0.1 < 13 := by
  split at h
  · rename_i c1 hc1
    have := ia_beq h
    exact ⟨c1, hc1, by rw [hy]; exact this, by omega⟩
  · cases h
theorem ex_160 : ia_cls 160 = 12 ∧ ia_na 160 = 1 ∧ ia_mc 160 = 0 ∧ ia_ms 160 = 0 := by decide +kernel
theorem ex_line (hl : l.stackTraces = false) (C0 : lw_At p s m meth c b L xs) (N : ia_N sa (fun q : Nat => s.heap.size ≤ q) s s.heap) (M : ex_N sb (fun q : Nat => s.heap.size ≤ q) s s.heap) (hL : L = 6) (hax : as0[0]? = some ax) (ham : as0[184]? = some am) (hc0 : ∃ c0, ia_get2 ia_S4 0 = some c0 ∧ c0.1 = 11) {y2 y : MethodName} {cc2 cc : ByteArray} {i j jc yi pp is iy py yy t1 t2 p47 yt : Nat} {o : Int} {tx : String} {sx : Nat} {q : Nat × Nat} (hF2 : ex_F2 y2 cc2 j y i) (hF : ex_F y cc jc yi pp is) (hq : ex_co pc i iy py yy t1 t2 o) (h47 : ia_okI 18 (47, 1, yt, 0, 0, p47) = true) (u0 : ia_cls yt = 12 ∧ ia_na yt = 1 ∧ ia_mc yt = 0 ∧ ia_ms yt = 0)
    (h1 : q.1 ≤ ia_E (xs 1)) (h2 : ia_E (xs 1) ≤ q.2) (hk : ex_chk yi yy yt q = true) (hsx : ∀ (B : Nat → Prop) (U : State) (H : Heap), ex_N sb B U H → vk_R RX11 is tx sx U) (hc : nc + 1 ≤ 600002) (hs : ns + 6 ≤ 7302232) : lx_W p l e s m below meth c b D sa as0 (lx_lv b ax am ao) pc [] ia_S4 205 nc ns := by
  obtain ⟨hx, hb, hr, hml, hown, hts, hX, hbl, hlocks, hgv⟩ := id C0
  obtain ⟨a1, a2, a3, a4, a5, a6, a7, a8, a9, a10, a11, a12, a13, a14, a15, a16, a17, a18, a19, a20, a21, a22, a23, a24, a25, a26⟩ := hq
  obtain ⟨u1, u2, u3, u4⟩ := u0
  have hl0 : (0, Value.ref b) ∈ lx_lv b ax am ao := by simp [lx_lv]
  have hl1 : (1, Value.ref ax) ∈ lx_lv b ax am ao := by simp [lx_lv]
  have hl2 : (2, Value.ref am) ∈ lx_lv b ax am ao := by simp [lx_lv]
  have hl3 : (3, Value.ref ao) ∈ lx_lv b ax am ao := by simp [lx_lv]
  have hl4 : (4, Value.int 0) ∈ lx_lv b ax am ao := by simp [lx_lv]
  unfold ex_chk at hk
  split at hk
  · rename_i ra σ1 n1 hcall1
    split at hk
    · rename_i rb σ2 n2 hcall2
      split at hk
      · rename_i rt σ3 n3 hcall3
        simp only [Bool.and_eq_true] at hk
        obtain ⟨b1, b2, b3, b4, b5, b6⟩ := hk
        have b1 := ia_beq b1
        have b2 := ia_beq b2
        have b3 := ia_beq b3
        have b4 := ia_beq b4
        obtain ⟨r1, r2⟩ := ra
        have b1' : r1 = 2147483648 := b1
        have b2' : r2 = 2147483648 := b2
        subst b1'; subst b2'
        intro H locs ws tys ls hl9 hG
        refine lv_aload_n hx hb a1 rfl (hl9.2.2 _ hl1) ?_
        refine lx_arg (lx := lx_lv b ax am ao) C0 hL hl0 hl4 (j := 1) (by decide) a2 ?_ H locs ws tys ls hl9 hG
        refine lx_arg (lx := lx_lv b ax am ao) C0 hL hl0 hl4 (j := 2) (by decide) a3 ?_
        intro H locs ws tys ls hl9 hG
        refine lv_aload_n hx hb a4 rfl (hl9.2.2 _ hl3) ?_
        refine ex_line1 (lx := lx_lv b ax am ao) hl C0 N M hF2 hF hcall1 hc0 h1 h2 hax hsx a5 hc hs ?_ H locs ws tys ls hl9 hG
        intro H locs ws tys ls hl9 hG
        refine lv_istore (i := 5) (lv' := (5, .int 1) :: lx_lv b ax am ao) hx hb a6 hl9 (by decide) rfl (fun ls hl9 => ?_)
        refine lv_aload_n hx hb a7 rfl (hl9.2.2 _ (List.mem_cons_of_mem _ hl2)) ?_
        refine lx_arg (lx := (5, .int 1) :: lx_lv b ax am ao) C0 hL (List.mem_cons_of_mem _ hl0) (List.mem_cons_of_mem _ hl4) (j := 1) (by decide) a8 ?_ H locs ws tys ls hl9 hG
        refine lx_arg (lx := (5, .int 1) :: lx_lv b ax am ao) C0 hL (List.mem_cons_of_mem _ hl0) (List.mem_cons_of_mem _ hl4) (j := 2) (by decide) a9 ?_
        refine lx_call (lx := (5, .int 1) :: lx_lv b ax am ao) C0 N (kx := 184) (as := [.inl q, .inl (0, 4294967295)]) (vs := [.int (xs 1), .int (xs 2)]) (rest := []) a22 a10 (by decide) hcall2 ham (ex_184 a24 b5) (fun ad => ⟨_, _, rfl, ⟨_, rfl, h1, h2⟩, _, _, rfl, ⟨_, rfl, Nat.zero_le _, by have := ia_E_lt (xs 2); show ia_E (xs 2) ≤ 4294967295; omega⟩, rfl⟩) (by show 2 + 1 = ia_na yy; omega) ⟨by omega, by omega⟩ (fun v _ _ => ?_)
        intro H locs ws tys ls hl9 hG
        refine lv_istore (i := 6) (lv' := (6, .int v) :: (5, .int 1) :: lx_lv b ax am ao) hx hb a11 hl9 (by decide) rfl (fun ls hl9 => ?_)
        refine lv_aload_n hx hb a12 rfl (hl9.2.2 _ (List.mem_cons_of_mem _ (List.mem_cons_of_mem _ hl2))) ?_
        refine lx_call (lx := (6, .int v) :: (5, .int 1) :: lx_lv b ax am ao) C0 N (kx := 184) (as := []) (vs := []) (rest := []) h47 a13 (by decide) hcall3 ham (ex_184 u1 b6) (fun ad => rfl) (by show 0 + 1 = ia_na yt; omega) ⟨by omega, by omega⟩ (fun w w1 w2 => ?_) H locs ws tys ls hl9 hG
        intro H locs ws tys ls hl9 hG
        have hw1 : w = 1 := ia_E_inj (by rw [show ia_E 1 = 2147483649 from by decide]; omega)
        subst hw1
        refine lv_iload hx hb a14 (lv_at hl9 1 rfl) ?_
        refine lv_icmp_eq (tgt := t1) hx hb a15 a16 (fun _ => ?_) (fun z => absurd rfl z)
        refine lv_iload hx hb a17 (lv_at hl9 1 rfl) ?_
        refine lv_if_ne (tgt := t2) hx hb a18 a19 (fun _ => ?_) (fun z => absurd z (by decide))
        refine lv_goto (tgt := 1321) hx hb a20 a21 ?_
        exact lx_end C0 hL (by omega) (by omega) H locs ws tys ls (lv_sub hl9 [2, 3, 4, 5, 6] rfl) hG
      · cases hk
    · cases hk
  · cases hk
set_option maxRecDepth 100000 in
theorem ex_M (C0 : lw_At p s m meth c b L xs) : ∃ sb, ex_N sb (fun q : Nat => s.heap.size ≤ q) s s.heap := by
  obtain ⟨hx, hb, hr, hml, hown, hts, hX, hbl, hlocks, hgv⟩ := id C0
  have hs := flat_of_before _ hgv
  have hA : ∀ a : Nat, a < s.heap.size → ¬ (fun q : Nat => s.heap.size ≤ q) a := fun a h => Nat.not_le.mpr h
  obtain ⟨a1, c1, cA1, kA1, e1, -⟩ := Cond.exactly_spec (args := #[Value.ref b]) (first := s) (o := none) (s := s) (idx := []) (t := .string RX11 159) (cls := "java/lang/String") (hs _ (by decide +kernel))
  obtain ⟨a2, c2, cA2, kA2, e2, -⟩ := Cond.exactly_spec (args := #[Value.ref b]) (first := s) (o := none) (s := s) (idx := []) (t := .string RX11 218) (cls := "java/lang/String") (hs _ (by decide +kernel))
  refine ⟨(a1, a2), ?_, ?_, fun w hw => ex_nw_of (ex_bad w hw).1 (hts _ (ex_bad w hw).2), ?_, ?_, ?_⟩
  · exact vk_R.of (hts _ (ia_w_in (p := 1410) (w := .stringRef RX11 159 "no such person") (by decide +kernel) (by intro z; cases z))) e1
  · exact vk_R.of (hts _ (ia_w_in (p := 1449) (w := .stringRef RX11 218 "no such debt") (by decide +kernel) (by intro z; cases z))) e2
  · exact ex_nw_of rfl (hts _ (ia_w_in (p := 1373) (w := .castable ex_E ex_E) (by decide +kernel) (by intro z; cases z)))
  · exact vx_Zqof (hts _ (ia_w_in (p := 1398) (w := .laysStatic Bundle.tN "UNASSIGNED_STACK" Bundle.steD) (by decide +kernel) (by intro z; cases z))) (hts _ (ia_w_in (p := 133) (w := .initialized Bundle.tN) (by decide +kernel) (by intro z; cases z))) (hs _ (by decide +kernel)) hA
  · exact vx_Zqof (hts _ (ia_w_in (p := 1400) (w := .laysStatic Bundle.tN "SUPPRESSED_SENTINEL" Bundle.listD) (by decide +kernel) (by intro z; cases z))) (hts _ (ia_w_in (p := 133) (w := .initialized Bundle.tN) (by decide +kernel) (by intro z; cases z))) (hs _ (by decide +kernel)) hA
end EX2
/-! ### the two lines, as they are printed -/
def ex_yp : MethodName := ⟨RX11, "person", "(II)I"⟩
def ex_yd : MethodName := ⟨RX11, "debt", "(II)I"⟩
def ex_zp : MethodName := ⟨R_law, "person", "(LHungerDays;II[J)I"⟩
def ex_zd : MethodName := ⟨R_law, "debt", "(LHungerDays;II[J)I"⟩
set_option maxRecDepth 100000 in
theorem ex_Fp : ex_F ex_yp prog_1_method_13_code 153 23 905 159 := ⟨rfl, ia_w_tb (p := 1370) (by decide +kernel) (by intro z; cases z) (by decide +kernel), by unfold ex_code; decide +kernel, by decide +kernel, by decide +kernel, by decide +kernel, by decide +kernel, by decide +kernel⟩
set_option maxRecDepth 100000 in
theorem ex_Fd : ex_F ex_yd prog_1_method_16_code 215 19 1187 218 := ⟨rfl, ia_w_tb (p := 1448) (by decide +kernel) (by intro z; cases z) (by decide +kernel), by unfold ex_code; decide +kernel, by decide +kernel, by decide +kernel, by decide +kernel, by decide +kernel, by decide +kernel⟩
set_option maxRecDepth 100000 in
theorem ex_F2p : ex_F2 ex_zp method_3_code 7 ex_yp 41 := ⟨rfl, ia_w_tb (p := 1365) (by decide +kernel) (by intro z; cases z) (by decide +kernel), by unfold ex_code2; decide +kernel, ia_w_tb (p := 1367) (by decide +kernel) (by intro z; cases z) (by decide +kernel), ia_w_tb (p := 1368) (by decide +kernel) (by intro z; cases z) (by decide +kernel), ia_w_tb (p := 1369) (by decide +kernel) (by intro z; cases z) (by decide +kernel), by decide +kernel, ia_w_tb (p := 1363) (by decide +kernel) (by intro z; cases z) (by decide +kernel), ia_w_tb (p := 1364) (by decide +kernel) (by intro z; cases z) (by decide +kernel), by decide +kernel⟩
set_option maxRecDepth 100000 in
theorem ex_F2d : ex_F2 ex_zd method_4_code 15 ex_yd 58 := ⟨rfl, ia_w_tb (p := 1444) (by decide +kernel) (by intro z; cases z) (by decide +kernel), by unfold ex_code2; decide +kernel, ia_w_tb (p := 1445) (by decide +kernel) (by intro z; cases z) (by decide +kernel), ia_w_tb (p := 1446) (by decide +kernel) (by intro z; cases z) (by decide +kernel), ia_w_tb (p := 1447) (by decide +kernel) (by intro z; cases z) (by decide +kernel), by decide +kernel, ia_w_tb (p := 1442) (by decide +kernel) (by intro z; cases z) (by decide +kernel), ia_w_tb (p := 1443) (by decide +kernel) (by intro z; cases z) (by decide +kernel), by decide +kernel⟩
set_option maxRecDepth 100000 in
theorem ex_cop : ex_co 336 41 46 1734 162 384 401 920 := by unfold ex_co lx_a; refine ⟨?_, ⟨?_, ?_, ?_, ?_, ?_⟩, ⟨?_, ?_, ?_, ?_, ?_⟩, ?_, ?_, ?_, ?_, ⟨?_, ?_, ?_, ?_, ?_⟩, ⟨?_, ?_, ?_, ?_, ?_⟩, ?_, ?_, ?_, ?_, ?_, ?_, ?_, ?_, ?_, ?_, ?_, ?_, ?_, ?_, ?_, ?_, ?_⟩ <;> decide +kernel
set_option maxRecDepth 100000 in
theorem ex_cod : ex_co 478 58 60 1786 163 526 543 778 := by unfold ex_co lx_a; refine ⟨?_, ⟨?_, ?_, ?_, ?_, ?_⟩, ⟨?_, ?_, ?_, ?_, ?_⟩, ?_, ?_, ?_, ?_, ⟨?_, ?_, ?_, ?_, ?_⟩, ⟨?_, ?_, ?_, ?_, ?_⟩, ?_, ?_, ?_, ?_, ?_, ?_, ?_, ?_, ?_, ?_, ?_, ?_, ?_, ?_, ?_, ?_, ?_⟩ <;> decide +kernel
set_option maxRecDepth 100000 in
theorem ex_47 : ia_okI 18 (47, 1, 160, 0, 0, 1452) = true := by decide +kernel
def ex_q0 : Nat × Nat := (0, 2147483647)
def ex_q1 : Nat × Nat := (2147483648, 4294967295)
set_option maxRecDepth 100000 in
theorem ex_rp0 : ex_chk 23 162 160 ex_q0 = true := by decide +kernel
set_option maxRecDepth 100000 in
theorem ex_rp1 : ex_chk 23 162 160 ex_q1 = true := by decide +kernel
set_option maxRecDepth 100000 in
theorem ex_rd0 : ex_chk 19 163 160 ex_q0 = true := by decide +kernel
set_option maxRecDepth 100000 in
theorem ex_rd1 : ex_chk 19 163 160 ex_q1 = true := by decide +kernel
theorem ex_split (x : Int32) : (ex_q0.1 ≤ ia_E x ∧ ia_E x ≤ ex_q0.2) ∨ (ex_q1.1 ≤ ia_E x ∧ ia_E x ≤ ex_q1.2) := by
  have h := ia_E_lt x
  show (0 ≤ ia_E x ∧ ia_E x ≤ 2147483647) ∨ (2147483648 ≤ ia_E x ∧ ia_E x ≤ 4294967295)
  omega

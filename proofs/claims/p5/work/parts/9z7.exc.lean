/-! ## person and debt: the class throws, the law's own method catches -/
def ex_E : String := "java/util/NoSuchElementException"
def ex_Y : String := "java/lang/RuntimeException"
def ex_names : List String := ["java/lang/Exception"]
abbrev ex_rx : ByteArray := prog_29_method_4_code
noncomputable def ex_L : List Cond := ex_atS RX11 161 ex_E 13 ex_rx ex_Y ex_names
theorem ex_x0 : decode ex_rx 0 = .ok (.aload_n 0, 1) := by decide +kernel
theorem ex_x1 : decode ex_rx 1 = .ok (.aload_n 1, 1) := by decide +kernel
theorem ex_x2 : decode ex_rx 2 = .ok (.invokespecial 13, 3) := by decide +kernel
theorem ex_x5 : decode ex_rx 5 = .ok (.return_, 1) := by decide +kernel
noncomputable def ex_isC (w : Cond) : Bool := match w with
  | .castable .. => true
  | .declares .. => true
  | _ => false
/-- what is so beside ia_N: the two texts, what may be cast, two statics of Throwable -/
def ex_N (sb : Nat → Nat) (A : Nat → Prop) (U : State) (H : Heap) : Prop :=
  (vk_R RX11 159 "no such person" (sb 0) U ∧ vk_R RX11 189 "nothing such of a person" (sb 1) U ∧ vk_R RX11 218 "no such debt" (sb 2) U ∧ vk_R RX11 238 "nothing such of a debt" (sb 3) U) ∧ (∀ w ∈ ex_L.filter (fun w => !goodWord w), va_Nw w U) ∧ va_Nw (.castable ex_E ex_E) U ∧ vx_Zq Bundle.tN "UNASSIGNED_STACK" Bundle.steD A U H ∧ vx_Zq Bundle.tN "SUPPRESSED_SENTINEL" Bundle.listD A U H
set_option maxRecDepth 100000 in
theorem ex_bad : ∀ w ∈ ex_L.filter (fun w => !goodWord w), ex_isC w = true ∧ w ∈ lw_tbl := by decide +kernel
set_option maxRecDepth 100000 in
theorem ex_goods : ∀ w ∈ ex_L.filter goodWord, w ∈ lw_tbl := by decide +kernel
set_option maxRecDepth 100000 in
theorem ex_ot : ∀ w ∈ Cond.classLink RX11 157 ex_E :: Cond.initialized ex_E :: ex_L, vx_ot w = true := by decide +kernel
theorem ex_nw_warm {w : Cond} {s U : State} (hn : ex_isC w = true) (hW : s.WarmedH U.vm) (h : va_Nw w s) : va_Nw w U := by
  cases w <;> first | exact va_Nw.warmC hW h | exact va_Nw.warmD hW h | cases hn
theorem ex_nw_same {w : Cond} {s U : State} (hn : ex_isC w = true) (hW : s.vm = U.vm) (h : va_Nw w s) : va_Nw w U := by
  cases w <;> first | exact va_Nw.same rfl hW h | cases hn
theorem ex_nw_use {w : Cond} {Ar : Array Value} {U : State} (hn : ex_isC w = true) (h : va_Nw w U) : w.before Ar U = true := by
  cases w <;> first | exact va_Nw.use rfl h | cases hn
theorem ex_nw_of {w : Cond} {Ar : Array Value} {U : State} (hn : ex_isC w = true) (h : w.before Ar U = true) : va_Nw w U := by
  cases w <;> first | exact va_Nw.of rfl h | cases hn
section EX
variable {p : Program} {l : Launch} {e : Env} {R : Room} {s : State} {m : MethodId} {args : Array Value} {below : List Frame} {meth : Method} {c : Code} {Q : State → Prop} {A : Nat → Prop} {sa : Nat × Nat} {sb : Nat → Nat} {D : va_G} {pc nc ns : Nat}
theorem ex_N.warm {U : State} {H : Heap} (hW : s.WarmedH U.vm) (h : ex_N sb A s H) : ex_N sb A U H := by
  obtain ⟨⟨g1, g2, g3, g4⟩, h3, h4, h5, h6⟩ := h
  exact ⟨⟨g1.warm hW, g2.warm hW, g3.warm hW, g4.warm hW⟩, fun w hw => ex_nw_warm (ex_bad w hw).1 hW (h3 w hw), ex_nw_warm rfl hW h4, h5.moved hW.alike, h6.moved hW.alike⟩
theorem ex_N.same {U : State} {H : Heap} (hv : s.vm = U.vm) (h : ex_N sb A s H) : ex_N sb A U H := by
  obtain ⟨⟨g1, g2, g3, g4⟩, h3, h4, h5, h6⟩ := h
  have ha : s.vm.Alike U.vm := by rw [← hv]; exact Vm.Alike.refl s.vm
  exact ⟨⟨g1.same hv.symm, g2.same hv.symm, g3.same hv.symm, g4.same hv.symm⟩, fun w hw => ex_nw_same (ex_bad w hw).1 hv (h3 w hw), ex_nw_same rfl hv h4, h5.moved ha, h6.moved ha⟩
theorem ex_N.kept {H H1 : Heap} (hq : ∀ a : Nat, a < H.size → ¬ A a → H1[a]? = H[a]?) (h : ex_N sb A s H) : ex_N sb A s H1 := by
  obtain ⟨h1, h3, h4, h5, h6⟩ := h
  exact ⟨h1, h3, h4, h5.kept hq, h6.kept hq⟩
theorem ex_N.narrow {H : Heap} {B : Nat → Prop} (hAB : ∀ q, B q → A q) (h : ex_N sb A s H) : ex_N sb B s H := by
  obtain ⟨h1, h3, h4, h5, h6⟩ := h
  exact ⟨h1, h3, h4, h5.narrow hAB, h6.narrow hAB⟩
def ex_P (D : va_G) (sa : Nat × Nat) (sb : Nat → Nat) (tys : List (ClassId × FieldType)) (ws : va_W) (sz : Nat) (vs : List Value) : Array Value → State → Prop := va_Pc vs (fun U => U.heap.size = sz ∧ va_P D vwCl ws U.heap ∧ va_K D vwCl tys U ∧ va_D (fun _ => True) ws ∧ ia_N sa (va_A ws sz) U U.heap ∧ ex_N sb (va_A ws sz) U U.heap)
theorem ex_blind {tys : List (ClassId × FieldType)} {ws : va_W} {sz : Nat} {vs : List Value} : FrameBlind (ex_P D sa sb tys ws sz vs) := fun a U g mk q => by
  obtain ⟨q0, q1, q2, q3, q4, q5, q6⟩ := q
  exact ⟨q0, q1, q2, va_K.moved (u := U) (U := U.calling g mk a) (Vm.Alike.refl U.vm) q3, q4, ia_N.same (s := U) rfl q5, ex_N.same (s := U) rfl q6⟩
theorem ex_pre {ws : va_W} {tys : List (ClassId × FieldType)} {H : Heap} {locs : List Loc} {vs : List Value} (N : ia_N sa A s s.heap) (M : ex_N sb A s s.heap) (hK : va_K D vwCl tys s) (hP : va_P D vwCl ws H) (hD : va_D A ws) (hS : va_S A s.heap H locs) (hA : ∀ q, s.heap.size ≤ q → A q) : ∀ U : State, U.heap = H → s.WarmedH U.vm → ex_P D sa sb tys ws H.size vs vs.toArray U := fun U hU hW =>
  ⟨rfl, by rw [hU], by rw [hU]; exact hP, va_K.moved hW.alike hK, hD.weaken (fun _ _ _ _ => trivial), by rw [hU]; exact (((N.kept hS.2.1).narrow (ia_free hD hS hA)).warm hW), by rw [hU]; exact (((M.kept hS.2.1).narrow (ia_free hD hS hA)).warm hW)⟩
/-- thrown: the class, and the world as it was left -/
def ex_X (D : va_G) (sa : Nat × Nat) (ws0 : va_W) (sz : Nat) (σ : ia_H) (n : Nat) : String → State → State → Prop := fun E st t => E = ex_E ∧ (∃ (ws : va_W) (tys : List (ClassId × FieldType)), ws.length = n ∧ (∃ x, ws.map Prod.fst = ws0.map Prod.fst ++ x) ∧ ia_R sa tys σ ws ∧ va_P D vwCl ws t.heap ∧ va_K D vwCl tys t ∧ va_D (va_A ws0 sz) ws) ∧ va_F (va_A ws0 sz) st t
noncomputable def ex_rm1 : Room := { frames := 40, cells := 1, slots := 6, locals := 4000 }
noncomputable def ex_rm2 : Room := { frames := 42, cells := 1, slots := 6, locals := 4400 }
def ex_site (cc : ByteArray) (pc is : Nat) : Prop := decode cc pc = .ok (.new 157, 3) ∧ decode cc (pc + 3) = .ok (.dup, 1) ∧ decode cc (pc + 4) = .ok (.ldc is, 2) ∧ decode cc (pc + 6) = .ok (.invokespecial 161, 3) ∧ decode cc (pc + 9) = .ok (.athrow, 1)
def ex_code (cc : ByteArray) (jc is is2 pt ln : Nat) (df hi : Int) (os : Array Int) : Prop := decode cc 0 = .ok (.aload_n 0, 1) ∧ decode cc 1 = .ok (.iload_n 1, 1) ∧ decode cc 2 = .ok (.invokevirtual jc, 3) ∧ decode cc 5 = .ok (.ifCond .ne 13, 3) ∧ ex_site cc 8 is ∧ decode cc 18 = .ok (.iload_n 2, 1) ∧ decode cc 19 = .ok (.tableswitch df 0 hi os, ln) ∧ ((19 : Nat) : Int) + df = (pt : Int) ∧ ex_site cc pt is2
theorem ia_own11 : ia_own 11 = RX11 := by decide +kernel
set_option maxRecDepth 100000 in
theorem ex_cl : Cond.classLink RX11 157 ex_E ∈ ia_TB := ia_w_tb (p := 1371) (by decide +kernel) (by intro z; cases z) (by decide +kernel)
set_option maxRecDepth 100000 in
theorem ex_in : Cond.initialized ex_E ∈ ia_TB := ia_w_tb (p := 136) (by decide +kernel) (by intro z; cases z) (by decide +kernel)
/-- the class's method throws -/
theorem ex_met (hl : l.stackTraces = false) {y : MethodName} {cc : ByteArray} {jc yi pp is is2 pt ln : Nat} {df hi : Int} {os : Array Int} {tx tx2 : String} {sx sx2 bx : Nat} {p0 p1 bv : Int32} {w : cm_W} {n : Nat} {ws : va_W} {tys : List (ClassId × FieldType)} {sz : Nat} (hy : y.cls = RX11) (hin : Cond.code y cc 3 (some .int) ∈ ia_TB) (hd : ex_code cc jc is is2 pt ln df hi os) (hok : ia_okI 11 (jc, 1, yi, 0, 0, pp) = true) (hna : ia_na yi = 2) (hmc : ia_mc yi = 0) (hms : ia_ms yi = 0) (hci : ia_cls yi = 11)
    (hcall : cm_C 24 yi [.inr (.inr (some 0)), .inl p0] w (some (.inl bv), w)) (hthr : bv = 0 ∨ p1.toInt < 0 ∨ hi < p1.toInt) (hbx : (ws.map Prod.fst)[0]? = some bx) (hn : ws.length = n) (hR : ia_R sa tys (cm_s w) ws) (hsx : ∀ (B : Nat → Prop) (U : State) (H : Heap), ex_N sb B U H → vk_R RX11 is tx sx U ∧ vk_R RX11 is2 tx2 sx2 U) : vx_Met l y (Cond.code y cc 3 (some .int) :: ia_TB) ex_rm1 (ex_P D sa sb tys ws sz [.ref bx, .int p0, .int p1]) (fun _ _ _ _ => False) (ex_X D sa ws sz (cm_s w) n) 1 6 (va_A ws sz) := by
  obtain ⟨d0, d1, d2, d5, ds1, d18, d19, dpt, ds2⟩ := hd
  refine vx_ofW (cc := cc) (maxL := 3) (ret := some .int) (by rw [hy]; decide +kernel) rfl ?_
  intro p e s m args below meth c s₁ B hml ht hv
  obtain ⟨rfl, hszz, hP, hK, hD0, N, M⟩ := hv
  subst hszz
  have hx := B.exec
  have hb := B.bytes
  have hts := atoms_spec (ws := Cond.code y cc 3 (some .int) :: ia_TB) B.pre
  have htb : ∀ w ∈ ia_TB, w.before (#[Value.ref bx, .int p0, .int p1]) s = true := fun w hw => hts w (List.mem_cons_of_mem _ hw)
  have hown : s.vm.findClass RX11 = some m.cls := by rw [← hy]; exact findClass_of_methodNamed B.named
  have hA : ∀ q : Nat, s.heap.size ≤ q → va_A ws s.heap.size q := fun _ h => Or.inr h
  have hD := hD0.self (sz := s.heap.size)
  have hS : va_S (va_A ws s.heap.size) s.heap s.heap [] := va_S.rf
  have hl9 := lv_entry ([.ref bx, .int p0, .int p1]) (n := 3) (Nat.le_of_ble_eq_true rfl)
  rw [show (#[Value.ref bx, .int p0, .int p1] : Array Value) = ([Value.ref bx, .int p0, .int p1] : List Value).toArray from rfl, lg_entry_eq]
  generalize (lg_sl ([Value.ref bx, .int p0, .int p1]) ++ List.replicate (3 - (lg_sl ([Value.ref bx, .int p0, .int p1])).length) Slot.unset).toArray = ls at hl9 ⊢
  have hlv : lv_has ls 3 [(0, .ref bx), (1, .int p0), (2, .int p1)] := hl9
  refine lv_aload_n hx hb d0 rfl (lv_at hlv 0 rfl) ?_
  refine lv_iload_n hx hb d1 rfl (lv_at hlv 1 rfl) ?_
  obtain ⟨k1, k2, k3, k4, k5, k6⟩ := ia_ok1v hok
  obtain ⟨kk, hk1, hk2⟩ := ia_pred k6
  obtain ⟨e1, e2, e3, e4, e5, e6, e7, e8⟩ := ia_okM_eq k1
  rw [ia_own11] at k2
  have hS' : ia_S sa (ws.map Prod.fst) (cm_es [.inr (.inr (some 0)), .inl p0]) [.ref bx, .int p0] := ⟨_, _, rfl, ⟨bx, hbx, rfl⟩, _, _, rfl, ⟨p0, rfl, Nat.le_refl _, Nat.le_refl _⟩, rfl⟩
  have hmet := cm_met 24 yi _ w _ hcall k1 n l D sa [.ref bx, .int p0] ws tys s.heap.size hS' hn hR
  have hcb : CallB (headSpec (Cond.code y cc 3 (some .int) :: ia_TB) ex_rm1).room s ([Value.ref bx, .int p0, .int p1] : List Value).toArray RX11 jc (ia_nm yi) (ia_code yi) (ia_maxL yi) (ia_ret yi) (ia_ws yi) (ia_rm 24 yi) (ia_mc yi) (ia_ms yi) kk := callB_of (Ts := Cond.code y cc 3 (some .int) :: ia_TB) (ws' := ia_TB) kk hts (ia_good e2) (by rw [ia_ws, e1]) rfl rfl (htb _ e5) (htb _ k2) ⟨e6, e7, hk2⟩ ⟨by show 24 + 1 ≤ 40; decide, by show 8 + (ia_maxL yi + 11) + 100 * 24 ≤ 4000; omega⟩
  obtain ⟨sh0, hg0, hg1⟩ := lx_sh0
  have hcell : ∃ cellB : Cell, s.heap[bx]? = some cellB ∧ cellB.vm.isStatics = false ∧ s.vm.findClass (ia_nm yi).cls = some cellB.cls := by
    obtain ⟨c0, f1, f2⟩ := lx_cls w hg0
    obtain ⟨e1, hw, hcc⟩ := hR.at f1 (by omega) hbx
    obtain ⟨vs0, rfl, -⟩ := hcc.1 (by omega)
    rw [f2, hg1] at hw
    have hz := va_recv (ci := 11) hK hP rfl hw
    rw [e3, hci, ia_own11]
    exact hz
  refine ia_after (va_runV (As := [.int p0]) (rest := []) (Ts := Cond.code y cc 3 (some .int) :: ia_TB) (cc := cc) (nL := 3) (own := RX11) ⟨hx, hb, hml, hown, hts⟩ hmet ⟨hcb, htb _ k3, htb _ k4⟩ ⟨ia_blind, hcell, ia_pre N hK hP hD hS hA⟩ rfl (by show 1 = kk; omega) hlv.1 rfl (lv_room (Nat.le_of_ble_eq_true rfl)) d2 ⟨by rw [hmc]; show 0 + 0 ≤ 1; decide, by rw [hms]; show 0 + 0 ≤ 6; decide⟩) hS (ia_free hD hS hA) (fun ov ws' tys' H1 locs1 q1 q2 q3 q4 q5 q6 q7 q8 => ?_)
  cases ov with
  | none => cases q1
  | some v =>
    obtain ⟨z, rfl, z1, z2⟩ := q1
    have hz0 : z = bv := ia_E_inj (Nat.le_antisymm z2 z1)
    subst hz0
    have thr : ∀ (pc is9 : Nat) (tx9 : String) (sx9 : Nat), ex_site cc pc is9 → vk_R RX11 is9 tx9 sx9 s → W p l e (headSpec (Cond.code y cc 3 (some .int) :: ia_TB) ex_rm1).room s m ([Value.ref bx, .int p0, .int p1] : List Value).toArray below meth c H1 locs1 (0 + ia_mc yi) (0 + ia_ms yi) (vx_MQ below (fun _ _ _ _ => False) (ex_X D sa ws s.heap.size (cm_s w) n) ([Value.ref bx, .int p0, .int p1] : List Value).toArray s 1 6 (va_A ws s.heap.size)) (F0 m pc ls []) := by
      intro pc is9 tx9 sx9 hsite hst
      obtain ⟨d8, d11, d12, d14, d17⟩ := hsite
      refine ex_throwS (pc := pc) (own := RX11) (cls := ex_E) (text := tx9) (Y9 := ex_Y) (names := ex_names) (ix := 13) (rx := ex_rx) (ik := 157) (is := is9) (ic := 161) (sa := sx9) (A := va_A ws s.heap.size) hx hb hl ex_x0 ex_x1 ex_x2 ex_x5 hown (by decide +kernel) (by decide +kernel) (htb _ ex_cl) (htb _ ex_in) hst (fun w hw => ?_) ex_ot M.2.2.2.1 M.2.2.2.2 q8 (hlv.1.trans hml.symm) d8 d11 d12 d14 d17 (fun x hx9 => (ht x hx9).elim) (by show 1 + 4 < 40; decide) (by show 0 + _ ≤ 4000; decide) (by rw [hmc]; show 0 + 0 + 1 ≤ 1; decide) (by rw [hms]; show 0 + 0 + 6 ≤ 6; decide) B.notSynchronized (fun t hvm hsz9 hq9 => ?_) q8.2.2 (by rw [hmc]; decide) (by rw [hms]; decide)
      · by_cases hg : goodWord w = true
        · exact htb w (List.mem_filter.mpr ⟨ex_goods w (List.mem_filter.mpr ⟨hw, hg⟩), hg⟩)
        · have hw' : w ∈ ex_L.filter (fun w => !goodWord w) := List.mem_filter.mpr ⟨hw, by simpa using hg⟩
          exact ex_nw_use (ex_bad w hw').1 (M.2.1 w hw')
      · refine ⟨rfl, ⟨ws', tys', q2, q3, q4, q5.kept (fun k q hk => hq9 q.1 ((q5 k q hk).lt)), va_K.moved hvm q6, q7⟩, Nat.le_trans q8.1 hsz9, fun q g1 g2 => ?_⟩
        rw [hq9 q (Nat.lt_of_lt_of_le g1 q8.1)]
        exact q8.2.1 q g1 g2
    refine lv_if_ne (tgt := 18) hx hb d5 (by decide) (fun hne => ?_) (fun _ => thr 8 is tx sx ds1 (hsx _ _ _ M).1)
    refine lv_iload_n hx hb d18 rfl (lv_at hlv 2 rfl) ?_
    refine lv_tableOut (tgt := pt) hx hb d19 ?_ dpt (thr pt is2 tx2 sx2 ds2 (hsx _ _ _ M).2)
    rcases hthr with h | h
    · exact absurd h hne
    · exact h
end EX

def R_law : String := "HungerDaysLaw"
def lw_P (b : Addr) (xs : List Int32) (args : Array Value) (s : State) : Prop := args = #[.ref b] ∧ s.IntsAt b xs ∧ xs.length ≤ 3072 ∧ (Jvm.Cond.and given_1 narrow_1).before args s = true
def lw_Q (_ : Array Value) (s : State) (o : Outcome) (t : State) : Prop := o = .returned (some (.int 1)) ∧ Framed s o t [] 601024 7293034
def lw_Z (below : List Frame) (a : Array Value) (s : State) : State → Prop := fun t => ∃ o, t.status = .running ∧ Ended t below o ∧ lw_Q a s o t
/-- the law's own end, with 1 on the stack, nothing written that was there before, its room as the claim has it -/
theorem lw_ret {p : Program} {l : Launch} {e : Env} {s : State} {m : MethodId} {below : List Frame} {meth : Method} {c : Code} {b : Nat} (hx : p.tables.exec = Jvm.exec) (hb : c.code = code) (hr : meth.sig.returnType = ret) (hlocks : meth.locks = false) {pc : Nat} {H : Heap} {ls : Array Slot} (hdg : decode code pc = .ok (.ireturn, 1)) : W p l e room_1 s m #[Value.ref b] below meth c H [] 601024 7293034 (lw_Z below #[Value.ref b] s) (F0 m pc ls [.int 1]) := by
  intro T hT X
  obtain ⟨fs, hret, hrun, hended, hW, hframe⟩ := X.leave (v := some (.int 1)) (hlocks := hlocks) (fun h => by rw [hr] at h; cases h)
  have hmeth' : T.vm.method? m = some meth := X.method'
  refine ⟨T.setFrames fs, ?_, .returned (some (.int 1)), hrun, hended, rfl, ⟨_, rfl⟩, hW, hframe⟩
  jvm_step X.here [X.here.top, hx, hb, hdg, hmeth', hr, ret, narrow_b1]
  (try refine ⟨rfl, ?_⟩); (try refine ⟨rfl, ?_⟩)
  first | (intro acts; rw [hret _ acts rfl rfl rfl]) | rw [hret _ _ rfl rfl rfl]
  exact Steps.refl _
/-- what holds at the law's entry: the machine, the code, the tables' words (any of lw_tbl by 'hts w (by decide +kernel)'), the script of L ints xs at the cell b, what the Statement gives of the start (any of its parts by flat_of_before) -/
def lw_At (p : Program) (s : State) (m : MethodId) (meth : Method) (c : Code) (b L : Nat) (xs : Nat → Int32) : Prop :=
  p.tables.exec = Jvm.exec ∧ c.code = code ∧ meth.sig.returnType = ret ∧ c.maxLocals = 7 ∧ s.vm.findClass R_law = some m.cls ∧ (∀ w ∈ lw_tbl, w.before #[Value.ref b] s = true) ∧ va_X b L xs s s.heap ∧ b < s.heap.size ∧ meth.locks = false ∧ (Jvm.Cond.and given_1 narrow_1).before #[Value.ref b] s = true
/-! ## the law's walk: its lines, by lemmas -/
section LX
variable {p : Program} {l : Launch} {e : Env} {s : State} {m : MethodId} {below : List Frame} {meth : Method} {c : Code} {b L : Nat} {xs : Nat → Int32} {D : va_G} {sa : Nat × Nat} {q : Nat} {as0 : List Nat} {lx : List (Nat × Value)} {pc : Nat} {vst : List Value} {σ : ia_H} {n nc ns : Nat}
def lx_G (s : State) (D : va_G) (sa : Nat × Nat) (as0 : List Nat) (H : Heap) (locs : List Loc) (ws : va_W) (tys : List (ClassId × FieldType)) (σ : ia_H) (n : Nat) : Prop := va_K D vwCl tys s ∧ va_P D vwCl ws H ∧ va_D (fun q : Nat => s.heap.size ≤ q) ws ∧ va_S (fun q : Nat => s.heap.size ≤ q) s.heap H locs ∧ ws.length = n ∧ ia_R sa tys σ ws ∧ ∃ x, ws.map Prod.fst = as0 ++ x
def lx_W (p : Program) (l : Launch) (e : Env) (s : State) (m : MethodId) (below : List Frame) (meth : Method) (c : Code) (b : Nat) (D : va_G) (sa : Nat × Nat) (as0 : List Nat) (lx : List (Nat × Value)) (pc : Nat) (vst : List Value) (σ : ia_H) (n nc ns : Nat) : Prop := ∀ (H : Heap) (locs : List Loc) (ws : va_W) (tys : List (ClassId × FieldType)) (ls : Array Slot), lv_has ls 7 lx → lx_G s D sa as0 H locs ws tys σ n → W p l e room_1 s m #[Value.ref b] below meth c H locs nc ns (lw_Z below #[Value.ref b] s) (F0 m pc ls vst)
def lx_a (pc j : Nat) : Prop := decode code pc = .ok (.aload_n 0, 1) ∧ decode code (pc + 1) = .ok (.iload 4, 2) ∧ decode code (pc + 3) = .ok (.iconst (j : Int), 1) ∧ decode code (pc + 4) = .ok (.iadd, 1) ∧ decode code (pc + 5) = .ok (.iaload, 1)
theorem lx_ix {q j : Nat} (h : q + j < 3100) : (Int32.ofNat q + Int32.ofInt (j : Int)).toNatClampNeg = q + j ∧ ¬ (Int32.ofNat q + Int32.ofInt (j : Int)) < 0 := by
  have e : Int32.ofNat q + Int32.ofInt (j : Int) = Int32.ofNat (q + j) := by
    rw [Int32.ofNat_add, Int32.ofInt_eq_ofNat]
  rw [e]
  have e1 := ia_Elen (k := q + j) (by omega)
  exact ⟨by rw [ia_cl (by omega), e1]; omega, by rw [ia_neg, e1]; omega⟩
/-- script[i + j] -/
theorem lx_arg (C0 : lw_At p s m meth c b L xs) (hL : q + 6 ≤ L) (hL2 : L ≤ 3072) (hl0 : (0, Value.ref b) ∈ lx) (hl4 : (4, Value.int (Int32.ofNat q)) ∈ lx) {j : Nat} (hj : j < 6) (ha : lx_a pc j) (k : lx_W p l e s m below meth c b D sa as0 lx (pc + 6) (.int (xs (q + j)) :: vst) σ n nc ns) : lx_W p l e s m below meth c b D sa as0 lx pc vst σ n nc ns := by
  obtain ⟨hx, hb, hr, hml, hown, hts, hX, hbl, hlocks, hgv⟩ := id C0
  intro H locs ws tys ls hl hG
  obtain ⟨hK, hP, hD, hS, -⟩ := id hG
  have hbA : ¬ (fun q : Nat => s.heap.size ≤ q) b := Nat.not_le.mpr hbl
  obtain ⟨i1, i2⟩ := lx_ix (q := q) (j := j) (by omega)
  refine lv_aload_n hx hb ha.1 rfl (hl.2.2 _ hl0) ?_
  refine lv_iload hx hb ha.2.1 (hl.2.2 _ hl4) ?_
  refine lv_iconst hx hb ha.2.2.1 rfl ?_
  refine lv_iadd hx hb ha.2.2.2.1 ?_
  refine va_sld hx hb hX hbl hbA hS (i := Int32.ofNat q + Int32.ofInt (j : Int)) ?_ ha.2.2.2.2 ?_
  · rintro (z | z)
    · exact i2 z
    · rw [i1] at z; omega
  · rw [i1]
    exact k H locs ws tys ls hl hG
def lx_as (xs : Nat → Int32) (q o k : Nat) : List Int32 := (List.range k).map (fun j => xs (q + (o + j + 1)))
theorem lx_as_succ (xs : Nat → Int32) (q o k : Nat) : lx_as xs q o (k + 1) = xs (q + (o + 1)) :: lx_as xs q (o + 1) k := by
  unfold lx_as
  rw [List.range_succ_eq_map, List.map_cons, List.map_map]
  congr 1
  congr 1
  funext j
  show xs (q + (o + (j + 1) + 1)) = xs (q + (o + 1 + j + 1))
  rw [show o + (j + 1) + 1 = o + 1 + j + 1 from by omega]
theorem lx_args (C0 : lw_At p s m meth c b L xs) (hL : q + 6 ≤ L) (hL2 : L ≤ 3072) (hl0 : (0, Value.ref b) ∈ lx) (hl4 : (4, Value.int (Int32.ofNat q)) ∈ lx) : ∀ (k o : Nat) (vst : List Value) (pc : Nat), o + k ≤ 5 → (∀ j, j < k → lx_a (pc + 6 * j) (o + j + 1)) → lx_W p l e s m below meth c b D sa as0 lx (pc + 6 * k) (((lx_as xs q o k).map Value.int).reverse ++ vst) σ n nc ns → lx_W p l e s m below meth c b D sa as0 lx pc vst σ n nc ns
  | 0, o, vst, pc, _, _, h => h
  | k + 1, o, vst, pc, hk, ha, h => by
    refine lx_arg C0 hL hL2 hl0 hl4 (j := o + 1) (by omega) (ha 0 (by omega)) ?_
    refine lx_args C0 hL hL2 hl0 hl4 k (o + 1) (.int (xs (q + (o + 1))) :: vst) (pc + 6) (by omega) (fun j hj => ?_) ?_
    · have := ha (j + 1) (by omega)
      rw [show pc + 6 + 6 * j = pc + 6 * (j + 1) from by omega, show o + 1 + j + 1 = o + (j + 1) + 1 from by omega]
      exact this
    · rw [show pc + 6 + 6 * k = pc + 6 * (k + 1) from by omega]
      rw [lx_as_succ, List.map_cons, List.reverse_cons, List.append_assoc] at h
      exact h
theorem lx_wide {nc' ns' : Nat} (h1 : nc ≤ nc') (h2 : ns ≤ ns') (k : lx_W p l e s m below meth c b D sa as0 lx pc vst σ n nc' ns') : lx_W p l e s m below meth c b D sa as0 lx pc vst σ n nc ns := by
  intro H locs ws tys ls hl hG
  exact W.widen h1 h2 (k H locs ws tys ls hl hG)
theorem lx_ints (sa : Nat × Nat) (ad : List Nat) : ∀ l : List Int32, ia_S sa ad (cm_es (l.map .inl)) (l.map Value.int)
  | [] => rfl
  | a :: l => ⟨_, _, rfl, ⟨a, rfl, Nat.le_refl _, Nat.le_refl _⟩, lx_ints sa ad l⟩
theorem lx_cls (w : cm_W) {k : Nat} {sh : Nat × Nat × List Nat} (h : cm_sh k = some sh) : ∃ c0, ia_get2 (cm_s w) k = some c0 ∧ c0.1 = sh.1 := ⟨_, cm_s_get h, rfl⟩
theorem lx_sh0 : ∃ sh, cm_sh 0 = some sh ∧ sh.1 = 11 := by
  have h : (match cm_sh 0 with | some sh => Nat.beq sh.1 11 | none => false) = true := by decide +kernel
  split at h
  · rename_i sh hs; exact ⟨sh, hs, ia_beq h⟩
  · cases h
theorem lx_sh184 : ∃ sh, cm_sh 184 = some sh ∧ sh.1 = 12 := by
  have h : (match cm_sh 184 with | some sh => Nat.beq sh.1 12 | none => false) = true := by decide +kernel
  split at h
  · rename_i sh hs; exact ⟨sh, hs, ia_beq h⟩
  · cases h
/-- a call of a method of the class, or of the reference -/
theorem lx_call (C0 : lw_At p s m meth c b L xs) (N : ia_N sa (fun q : Nat => s.heap.size ≤ q) s s.heap) {y2 i pp kx bx : Nat} {as : List Int32} {rest : List Value} {x : Int32} {w w' : cm_W} (hok : ia_okI 18 (i, 1, y2, 0, 0, pp) = true) (hd : decode code pc = .ok (.invokevirtual i, 3)) (hrest : (rest.map fun v => v.category).sum ≤ 8)
    (hcall : cm_C 24 y2 (.inr (.inr (some kx)) :: as.map .inl) w (some (.inl x), w')) (hbx : as0[kx]? = some bx) (hcl : ∃ c0, ia_get2 (cm_s w) kx = some c0 ∧ c0.1 = ia_cls y2 ∧ c0.1 < 13) (hlen : as.length + 1 = ia_na y2) (hm0 : ia_mc y2 = 0) (hm1 : ia_ms y2 = 0) (hc : nc ≤ 601024 ∧ ns ≤ 7293034)
    (k : lx_W p l e s m below meth c b D sa as0 lx (pc + 3) (.int x :: rest) (cm_s w') n nc ns) : lx_W p l e s m below meth c b D sa as0 lx pc ((as.map Value.int).reverse ++ .ref bx :: rest) (cm_s w) n nc ns := by
  obtain ⟨hx, hb, hr, hml, hown, hts, hX, hbl, hlocks, hgv⟩ := id C0
  intro H locs ws tys ls hl hG
  obtain ⟨hK, hP, hD, hS, hn, hR, x0, hx0⟩ := id hG
  have hA : ∀ q : Nat, s.heap.size ≤ q → (fun q : Nat => s.heap.size ≤ q) q := fun _ h => h
  have htb : ∀ w ∈ ia_TB, w.before #[Value.ref b] s = true := fun w hw => hts w (List.mem_filter.mp hw).1
  obtain ⟨k1, k2, k3, k4, k5, k6⟩ := ia_ok1v hok
  obtain ⟨kk, hk1, hk2⟩ := ia_pred k6
  obtain ⟨e1, e2, e3, e4, e5, e6, e7, e8⟩ := ia_okM_eq k1
  have hb0 : (ws.map Prod.fst)[kx]? = some bx := by rw [hx0]; exact ia_app_mono _ _ hbx
  have hS' : ia_S sa (ws.map Prod.fst) (cm_es (.inr (.inr (some kx)) :: as.map .inl)) (.ref bx :: as.map Value.int) := ⟨_, _, rfl, ⟨bx, hb0, rfl⟩, lx_ints sa _ as⟩
  have hmet := cm_met 24 y2 _ w _ hcall k1 n l D sa (.ref bx :: as.map Value.int) ws tys H.size hS' hn hR
  have hAl : (as.map Value.int).length = kk := by rw [List.length_map]; omega
  have hcb : CallB room_1 s #[Value.ref b] (ia_own 18) i (ia_nm y2) (ia_code y2) (ia_maxL y2) (ia_ret y2) (ia_ws y2) (ia_rm 24 y2) (ia_mc y2) (ia_ms y2) kk := callB_of (Ts := lw_tbl) (ws' := ia_TB) kk hts (ia_good0 e2) (by rw [ia_ws, e1]) rfl rfl (htb _ e5) (htb _ k2) ⟨e6, e7, hk2⟩ ⟨by show 24 + 1 ≤ 2048; decide, by show 8 + (ia_maxL y2 + 11) + 100 * 24 ≤ 84000; omega⟩
  obtain ⟨c0, hc0, hc3, hc4⟩ := hcl
  have hcell : ∃ cellB : Cell, H[bx]? = some cellB ∧ cellB.vm.isStatics = false ∧ s.vm.findClass (ia_nm y2).cls = some cellB.cls := by
    obtain ⟨e1, hw, hcc⟩ := hR.at hc0 (by omega) hb0
    obtain ⟨vs0, rfl, -⟩ := hcc.1 (by omega)
    have hvc : ∃ q, vwCl[c0.1]? = some q := ⟨_, List.getElem?_eq_getElem (show c0.1 < vwCl.length from hc4)⟩
    obtain ⟨q, hq⟩ := hvc
    have hz := va_recv hK hP hq hw
    rw [(ia_okC_at hq).2.2.2, hc3, ← e3] at hz
    exact hz
  refine ia_after (va_runV (As := as.map Value.int) (rest := rest) (Ts := lw_tbl) (cc := code) (nL := 7) (own := ia_own 18) ⟨hx, hb, hml, hown, hts⟩ hmet ⟨hcb, htb _ k3, htb _ k4⟩ ⟨ia_blind, hcell, ia_pre N hK hP hD hS hA⟩ rfl hAl hl.1 rfl (lv_room hrest) hd ⟨by rw [hm0]; exact hc.1, by rw [hm1]; exact hc.2⟩) hS (ia_free hD hS hA) (fun ov ws' tys' H1 locs1 q1 q2 q3 q4 q5 q6 q7 q8 => ?_)
  obtain ⟨x1, hx1⟩ := q3
  cases ov with
  | none => cases q1
  | some v =>
    obtain ⟨z, rfl, z1, z2⟩ := q1
    have hzx : z = x := ia_E_inj (Nat.le_antisymm z2 z1)
    subst hzx
    rw [hm0, hm1]
    exact k H1 locs1 ws' tys' ls hl ⟨q6, q5, q7, q8, q2, q4, x0 ++ x1, by rw [hx1, hx0, List.append_assoc]⟩
end LX
/-! ## a line of the law: both calls, their answers thrown away -/
section LX2
variable {p : Program} {l : Launch} {e : Env} {s : State} {m : MethodId} {below : List Frame} {meth : Method} {c : Code} {b L : Nat} {xs : Nat → Int32} {D : va_G} {sa : Nat × Nat} {q : Nat} {as0 : List Nat} {pc : Nat} {w : cm_W} {nc ns ax am ao r : Nat}
abbrev lx_lv (b ax am ao q : Nat) : List (Nat × Value) := [(4, .int (Int32.ofNat q)), (3, .ref ao), (2, .ref am), (1, .ref ax), (0, .ref b)]
noncomputable def lx_dc (pc : Nat) (i : Instr) (k : Nat) : Bool := decide (decode code pc = .ok (i, k))
noncomputable def lx_ab (pc j : Nat) : Bool := lx_dc pc (.aload_n 0) 1 && (lx_dc (pc + 1) (.iload 4) 2 && (lx_dc (pc + 3) (.iconst (j : Int)) 1 && (lx_dc (pc + 4) .iadd 1 && lx_dc (pc + 5) .iaload 1)))
theorem lx_ab_ok {pc j : Nat} (h : lx_ab pc j = true) : lx_a pc j := by
  unfold lx_ab lx_dc at h
  simp only [Bool.and_eq_true, decide_eq_true_eq] at h
  exact h
/-- the two methods of a line -/
def lx_ym (ix iy px py yx yy k : Nat) : Prop := ia_okI 18 (ix, 1, yx, 0, 0, px) = true ∧ ia_okI 18 (iy, 1, yy, 0, 0, py) = true ∧ k ≤ 5 ∧ k + 1 = ia_na yx ∧ k + 1 = ia_na yy ∧ ia_cls yx = 11 ∧ ia_cls yy = 12 ∧ ia_mc yx = 0 ∧ ia_ms yx = 0 ∧ ia_mc yy = 0 ∧ ia_ms yy = 0
noncomputable def lx_yb (ix iy px py yx yy k : Nat) : Bool := ia_okI 18 (ix, 1, yx, 0, 0, px) && (ia_okI 18 (iy, 1, yy, 0, 0, py) && (Nat.ble k 5 && (Nat.beq (k + 1) (ia_na yx) && (Nat.beq (k + 1) (ia_na yy) && (Nat.beq (ia_cls yx) 11 && (Nat.beq (ia_cls yy) 12 && (Nat.beq (ia_mc yx) 0 && (Nat.beq (ia_ms yx) 0 && (Nat.beq (ia_mc yy) 0 && Nat.beq (ia_ms yy) 0)))))))))
theorem lx_yb_ok {ix iy px py yx yy k : Nat} (h : lx_yb ix iy px py yx yy k = true) : lx_ym ix iy px py yx yy k := by
  unfold lx_yb at h
  simp only [Bool.and_eq_true] at h
  obtain ⟨a9, a10, a11, a12, a13, a14, a15, a16, a17, a18, a19⟩ := h
  exact ⟨a9, a10, ia_ble a11, ia_beq a12, ia_beq a13, ia_beq a14, ia_beq a15, ia_beq a16, ia_beq a17, ia_beq a18, ia_beq a19⟩
/-- the printed line: k arguments -/
def lx_code (pc k ix iy : Nat) (o : Int) (te : Nat) : Prop := decode code pc = .ok (.aload_n 1, 1) ∧ (∀ j, j < k → lx_a (pc + 1 + 6 * j) (0 + j + 1)) ∧ decode code (pc + 1 + 6 * k) = .ok (.invokevirtual ix, 3) ∧ decode code (pc + 1 + 6 * k + 3) = .ok (.pop, 1) ∧ decode code (pc + 1 + 6 * k + 3 + 1) = .ok (.aload_n 2, 1) ∧ (∀ j, j < k → lx_a (pc + 1 + 6 * k + 3 + 1 + 1 + 6 * j) (0 + j + 1)) ∧ decode code (pc + 1 + 6 * k + 3 + 1 + 1 + 6 * k) = .ok (.invokevirtual iy, 3) ∧ decode code (pc + 1 + 6 * k + 3 + 1 + 1 + 6 * k + 3) = .ok (.pop, 1) ∧ decode code (pc + 1 + 6 * k + 3 + 1 + 1 + 6 * k + 3 + 1) = .ok (.goto o, 3) ∧ ((pc + 1 + 6 * k + 3 + 1 + 1 + 6 * k + 3 + 1 : Nat) : Int) + o = (te : Int)
noncomputable def lx_cb (pc k ix iy : Nat) (o : Int) (te : Nat) : Bool := lx_dc pc (.aload_n 1) 1 && ((List.range k).all (fun j => lx_ab (pc + 1 + 6 * j) (0 + j + 1)) && (lx_dc (pc + 1 + 6 * k) (.invokevirtual ix) 3 && (lx_dc (pc + 1 + 6 * k + 3) .pop 1 && (lx_dc (pc + 1 + 6 * k + 3 + 1) (.aload_n 2) 1 && ((List.range k).all (fun j => lx_ab (pc + 1 + 6 * k + 3 + 1 + 1 + 6 * j) (0 + j + 1)) && (lx_dc (pc + 1 + 6 * k + 3 + 1 + 1 + 6 * k) (.invokevirtual iy) 3 && (lx_dc (pc + 1 + 6 * k + 3 + 1 + 1 + 6 * k + 3) .pop 1 && (lx_dc (pc + 1 + 6 * k + 3 + 1 + 1 + 6 * k + 3 + 1) (.goto o) 3 && decide (((pc + 1 + 6 * k + 3 + 1 + 1 + 6 * k + 3 + 1 : Nat) : Int) + o = (te : Int))))))))))
theorem lx_cb_ok {pc k ix iy : Nat} {o : Int} {te : Nat} (h : lx_cb pc k ix iy o te = true) : lx_code pc k ix iy o te := by
  unfold lx_cb lx_dc at h
  simp only [Bool.and_eq_true, decide_eq_true_eq] at h
  obtain ⟨a1, a2, a3, a4, a5, a6, a7, a8, a9, a10⟩ := h
  exact ⟨a1, fun j hj => lx_ab_ok (List.all_eq_true.mp a2 j (List.mem_range.mpr hj)), a3, a4, a5, fun j hj => lx_ab_ok (List.all_eq_true.mp a6 j (List.mem_range.mpr hj)), a7, a8, a9, a10⟩
/-- a line whose answers are compared -/
def lx_codeE (pc k ix iy : Nat) (o : Int) (te : Nat) : Prop := decode code pc = .ok (.aload_n 1, 1) ∧ (∀ j, j < k → lx_a (pc + 1 + 6 * j) (0 + j + 1)) ∧ decode code (pc + 1 + 6 * k) = .ok (.invokevirtual ix, 3) ∧ decode code (pc + 1 + 6 * k + 3) = .ok (.aload_n 2, 1) ∧ (∀ j, j < k → lx_a (pc + 1 + 6 * k + 3 + 1 + 6 * j) (0 + j + 1)) ∧ decode code (pc + 1 + 6 * k + 3 + 1 + 6 * k) = .ok (.invokevirtual iy, 3) ∧ decode code (pc + 1 + 6 * k + 3 + 1 + 6 * k + 3) = .ok (.if_icmp .eq o, 3) ∧ ((pc + 1 + 6 * k + 3 + 1 + 6 * k + 3 : Nat) : Int) + o = (te : Int)
noncomputable def lx_cbE (pc k ix iy : Nat) (o : Int) (te : Nat) : Bool := lx_dc pc (.aload_n 1) 1 && ((List.range k).all (fun j => lx_ab (pc + 1 + 6 * j) (0 + j + 1)) && (lx_dc (pc + 1 + 6 * k) (.invokevirtual ix) 3 && (lx_dc (pc + 1 + 6 * k + 3) (.aload_n 2) 1 && ((List.range k).all (fun j => lx_ab (pc + 1 + 6 * k + 3 + 1 + 6 * j) (0 + j + 1)) && (lx_dc (pc + 1 + 6 * k + 3 + 1 + 6 * k) (.invokevirtual iy) 3 && (lx_dc (pc + 1 + 6 * k + 3 + 1 + 6 * k + 3) (.if_icmp .eq o) 3 && decide (((pc + 1 + 6 * k + 3 + 1 + 6 * k + 3 : Nat) : Int) + o = (te : Int))))))))
theorem lx_cbE_ok {pc k ix iy : Nat} {o : Int} {te : Nat} (h : lx_cbE pc k ix iy o te = true) : lx_codeE pc k ix iy o te := by
  unfold lx_cbE lx_dc at h
  simp only [Bool.and_eq_true, decide_eq_true_eq] at h
  obtain ⟨a1, a2, a3, a4, a5, a6, a7, a8⟩ := h
  exact ⟨a1, fun j hj => lx_ab_ok (List.all_eq_true.mp a2 j (List.mem_range.mpr hj)), a3, a4, fun j hj => lx_ab_ok (List.all_eq_true.mp a5 j (List.mem_range.mpr hj)), a6, a7, a8⟩
theorem lx_as_len (xs : Nat → Int32) (q o k : Nat) : (lx_as xs q o k).length = k := by
  unfold lx_as
  rw [List.length_map, List.length_range]
theorem lx_c0 (w : cm_W) {y : Nat} (h : ia_cls y = 11) : ∃ c0, ia_get2 (cm_s w) 0 = some c0 ∧ c0.1 = ia_cls y ∧ c0.1 < 13 := by
  obtain ⟨sh, h1, h2⟩ := lx_sh0
  obtain ⟨c0, g1, g2⟩ := lx_cls w h1
  exact ⟨c0, g1, by omega, by omega⟩
theorem lx_c184 (w : cm_W) {y : Nat} (h : ia_cls y = 12) : ∃ c0, ia_get2 (cm_s w) 184 = some c0 ∧ c0.1 = ia_cls y ∧ c0.1 < 13 := by
  obtain ⟨sh, h1, h2⟩ := lx_sh184
  obtain ⟨c0, g1, g2⟩ := lx_cls w h1
  exact ⟨c0, g1, by omega, by omega⟩
theorem lx_mem (b ax am ao q : Nat) : (0, Value.ref b) ∈ lx_lv b ax am ao q ∧ (1, Value.ref ax) ∈ lx_lv b ax am ao q ∧ (2, Value.ref am) ∈ lx_lv b ax am ao q ∧ (3, Value.ref ao) ∈ lx_lv b ax am ao q ∧ (4, Value.int (Int32.ofNat q)) ∈ lx_lv b ax am ao q := by
  refine ⟨?_, ?_, ?_, ?_, ?_⟩ <;> simp [lx_lv]
theorem lx_two (C0 : lw_At p s m meth c b L xs) (N : ia_N sa (fun q : Nat => s.heap.size ≤ q) s s.heap) (hL : q + 6 ≤ L) (hL2 : L ≤ 3072) (hax : as0[0]? = some ax) (ham : as0[184]? = some am) {k ix iy px py yx yy te : Nat} {o : Int} (hq : lx_code pc k ix iy o te) (hy : lx_ym ix iy px py yx yy k) (hln : jLnf yx yy k) (hr : r ≤ 3000) (hI : jIf r w) (hc : nc ≤ 601024) (hs : ns ≤ 7293034)
    (kk : ∀ w2, jIf (r + 2) w2 → lx_W p l e s m below meth c b D sa as0 (lx_lv b ax am ao q) te [] (cm_s w2) 205 nc ns) : lx_W p l e s m below meth c b D sa as0 (lx_lv b ax am ao q) pc [] (cm_s w) 205 nc ns := by
  obtain ⟨hx, hb, -⟩ := id C0
  obtain ⟨a1, a2, a3, a4, a5, a6, a7, a8, a9, a10⟩ := hq
  obtain ⟨b1, b2, b3, b4, b5, b6, b7, b8, b9, b10, b11⟩ := hy
  obtain ⟨hl0, hl1, hl2, hl3, hl4⟩ := lx_mem b ax am ao q
  obtain ⟨x, w1, y, w2, hC1, hC2, h2⟩ := hln r w (lx_as xs q 0 k) hr (lx_as_len _ _ _ _) hI
  intro H locs ws tys ls hl hG
  refine lv_aload_n hx hb a1 rfl (hl.2.2 _ hl1) ?_
  refine lx_args (lx := lx_lv b ax am ao q) C0 hL hL2 hl0 hl4 k 0 [.ref ax] (pc + 1) (by omega) a2 ?_ H locs ws tys ls hl hG
  refine lx_call C0 N (as := lx_as xs q 0 k) (rest := []) b1 a3 (by decide) hC1 hax (lx_c0 w b6) (by rw [lx_as_len]; exact b4) b8 b9 ⟨hc, hs⟩ ?_
  intro H locs ws tys ls hl hG
  refine lv_pop hx hb a4 rfl ?_
  refine lv_aload_n hx hb a5 rfl (hl.2.2 _ hl2) ?_
  refine lx_args (lx := lx_lv b ax am ao q) C0 hL hL2 hl0 hl4 k 0 [.ref am] (pc + 1 + 6 * k + 3 + 1 + 1) (by omega) a6 ?_ H locs ws tys ls hl hG
  refine lx_call C0 N (as := lx_as xs q 0 k) (rest := []) b2 a7 (by decide) hC2 ham (lx_c184 w1 b7) (by rw [lx_as_len]; exact b5) b10 b11 ⟨hc, hs⟩ ?_
  intro H locs ws tys ls hl hG
  refine lv_pop hx hb a8 rfl ?_
  refine lv_goto (tgt := te) hx hb a9 a10 ?_
  exact kk w2 h2 H locs ws tys ls hl hG
theorem lx_twoE (C0 : lw_At p s m meth c b L xs) (N : ia_N sa (fun q : Nat => s.heap.size ≤ q) s s.heap) (hL : q + 6 ≤ L) (hL2 : L ≤ 3072) (hax : as0[0]? = some ax) (ham : as0[184]? = some am) {k ix iy px py yx yy te : Nat} {o : Int} (hq : lx_codeE pc k ix iy o te) (hy : lx_ym ix iy px py yx yy k) (hln : jLef yx yy k) (hr : r ≤ 3000) (hI : jIf r w) (hc : nc ≤ 601024) (hs : ns ≤ 7293034)
    (kk : ∀ w2, jIf (r + 2) w2 → lx_W p l e s m below meth c b D sa as0 (lx_lv b ax am ao q) te [] (cm_s w2) 205 nc ns) : lx_W p l e s m below meth c b D sa as0 (lx_lv b ax am ao q) pc [] (cm_s w) 205 nc ns := by
  obtain ⟨hx, hb, -⟩ := id C0
  obtain ⟨a1, a2, a3, a4, a5, a6, a7, a8⟩ := hq
  obtain ⟨b1, b2, b3, b4, b5, b6, b7, b8, b9, b10, b11⟩ := hy
  obtain ⟨hl0, hl1, hl2, hl3, hl4⟩ := lx_mem b ax am ao q
  obtain ⟨x, w1, y, w2, hC1, hC2, h2, hxy⟩ := hln r w (lx_as xs q 0 k) hr (lx_as_len _ _ _ _) hI
  intro H locs ws tys ls hl hG
  refine lv_aload_n hx hb a1 rfl (hl.2.2 _ hl1) ?_
  refine lx_args (lx := lx_lv b ax am ao q) C0 hL hL2 hl0 hl4 k 0 [.ref ax] (pc + 1) (by omega) a2 ?_ H locs ws tys ls hl hG
  refine lx_call C0 N (as := lx_as xs q 0 k) (rest := []) b1 a3 (by decide) hC1 hax (lx_c0 w b6) (by rw [lx_as_len]; exact b4) b8 b9 ⟨hc, hs⟩ ?_
  intro H locs ws tys ls hl hG
  refine lv_aload_n hx hb a4 rfl (hl.2.2 _ hl2) ?_
  refine lx_args (lx := lx_lv b ax am ao q) C0 hL hL2 hl0 hl4 k 0 [.ref am, .int x] (pc + 1 + 6 * k + 3 + 1) (by omega) a5 ?_ H locs ws tys ls hl hG
  refine lx_call C0 N (as := lx_as xs q 0 k) (rest := [.int x]) b2 a6 (Nat.le_of_ble_eq_true rfl) hC2 ham (lx_c184 w1 b7) (by rw [lx_as_len]; exact b5) b10 b11 ⟨hc, hs⟩ ?_
  intro H locs ws tys ls hl hG
  refine lv_icmp_eq (tgt := te) hx hb a7 a8 (fun _ => ?_) (fun z => absurd hxy z)
  exact kk w2 h2 H locs ws tys ls hl hG
end LX2

/-! ## the law's walk: its lines, by lemmas -/
section LX
variable {p : Program} {l : Launch} {e : Env} {s : State} {m : MethodId} {below : List Frame} {meth : Method} {c : Code} {b L : Nat} {xs : Nat → Int32} {D : va_G} {sa : Nat × Nat} {as0 : List Nat} {lx : List (Nat × Value)} {pc : Nat} {vst : List Value} {σ : ia_H} {n nc ns : Nat}
def lx_G (s : State) (D : va_G) (sa : Nat × Nat) (as0 : List Nat) (H : Heap) (locs : List Loc) (ws : va_W) (tys : List (ClassId × FieldType)) (σ : ia_H) (n : Nat) : Prop := va_K D vwCl tys s ∧ va_P D vwCl ws H ∧ va_D (fun q : Nat => s.heap.size ≤ q) ws ∧ va_S (fun q : Nat => s.heap.size ≤ q) s.heap H locs ∧ ws.length = n ∧ ia_R sa tys σ ws ∧ ∃ x, ws.map Prod.fst = as0 ++ x
def lx_W (p : Program) (l : Launch) (e : Env) (s : State) (m : MethodId) (below : List Frame) (meth : Method) (c : Code) (b : Nat) (D : va_G) (sa : Nat × Nat) (as0 : List Nat) (lx : List (Nat × Value)) (pc : Nat) (vst : List Value) (σ : ia_H) (n nc ns : Nat) : Prop := ∀ (H : Heap) (locs : List Loc) (ws : va_W) (tys : List (ClassId × FieldType)) (ls : Array Slot), lv_has ls 7 lx → lx_G s D sa as0 H locs ws tys σ n → W p l e room_1 s m #[Value.ref b] below meth c H locs nc ns (lw_Z below #[Value.ref b] s) (F0 m pc ls vst)
def lx_a (pc j : Nat) : Prop := decode code pc = .ok (.aload_n 0, 1) ∧ decode code (pc + 1) = .ok (.iload 4, 2) ∧ decode code (pc + 3) = .ok (.iconst (j : Int), 1) ∧ decode code (pc + 4) = .ok (.iadd, 1) ∧ decode code (pc + 5) = .ok (.iaload, 1)
theorem lx_ix : ∀ j : Nat, j < 6 → ((0 : Int32) + Int32.ofInt (j : Int)).toNatClampNeg = j ∧ ¬ ((0 : Int32) + Int32.ofInt (j : Int)) < 0 := by decide
/-- script[i + j] -/
theorem lx_arg (C0 : lw_At p s m meth c b L xs) (hL : L = 6) (hl0 : (0, Value.ref b) ∈ lx) (hl4 : (4, Value.int 0) ∈ lx) {j : Nat} (hj : j < 6) (ha : lx_a pc j) (k : lx_W p l e s m below meth c b D sa as0 lx (pc + 6) (.int (xs j) :: vst) σ n nc ns) : lx_W p l e s m below meth c b D sa as0 lx pc vst σ n nc ns := by
  obtain ⟨hx, hb, hr, hml, hown, hts, hX, hbl, hlocks, hgv⟩ := id C0
  intro H locs ws tys ls hl hG
  obtain ⟨hK, hP, hD, hS, -⟩ := id hG
  have hbA : ¬ (fun q : Nat => s.heap.size ≤ q) b := Nat.not_le.mpr hbl
  obtain ⟨i1, i2⟩ := lx_ix j hj
  refine lv_aload_n hx hb ha.1 rfl (hl.2.2 _ hl0) ?_
  refine lv_iload hx hb ha.2.1 (hl.2.2 _ hl4) ?_
  refine lv_iconst hx hb ha.2.2.1 rfl ?_
  refine lv_iadd hx hb ha.2.2.2.1 ?_
  refine va_sld hx hb hX hbl hbA hS (i := (0 : Int32) + Int32.ofInt (j : Int)) ?_ ha.2.2.2.2 ?_
  · rintro (q | q)
    · exact i2 q
    · rw [i1] at q; omega
  · rw [i1]
    exact k H locs ws tys ls hl hG
theorem lx_args (C0 : lw_At p s m meth c b L xs) (hL : L = 6) (hl0 : (0, Value.ref b) ∈ lx) (hl4 : (4, Value.int 0) ∈ lx) : ∀ (k o : Nat) (vst : List Value) (pc : Nat), o + k ≤ 5 → (∀ j, j < k → lx_a (pc + 6 * j) (o + j + 1)) → lx_W p l e s m below meth c b D sa as0 lx (pc + 6 * k) (((List.range k).map (fun j => Value.int (xs (o + j + 1)))).reverse ++ vst) σ n nc ns → lx_W p l e s m below meth c b D sa as0 lx pc vst σ n nc ns
  | 0, o, vst, pc, _, _, h => h
  | k + 1, o, vst, pc, hk, ha, h => by
    refine lx_arg C0 hL hl0 hl4 (j := o + 1) (by omega) (ha 0 (by omega)) ?_
    refine lx_args C0 hL hl0 hl4 k (o + 1) (.int (xs (o + 1)) :: vst) (pc + 6) (by omega) (fun j hj => ?_) ?_
    · have := ha (j + 1) (by omega)
      rw [show pc + 6 + 6 * j = pc + 6 * (j + 1) from by omega, show o + 1 + j + 1 = o + (j + 1) + 1 from by omega]
      exact this
    · rw [show pc + 6 + 6 * k = pc + 6 * (k + 1) from by omega]
      have e1 : ((List.range k).map (fun j => Value.int (xs (o + 1 + j + 1)))).reverse ++ (.int (xs (o + 1)) :: vst) = ((List.range (k + 1)).map (fun j => Value.int (xs (o + j + 1)))).reverse ++ vst := by
        rw [List.range_succ_eq_map, List.map_cons, List.reverse_cons, List.append_assoc, List.map_map]
        congr 3
        funext j
        show Value.int (xs (o + 1 + j + 1)) = Value.int (xs (o + (j + 1) + 1))
        rw [show o + 1 + j + 1 = o + (j + 1) + 1 from by omega]
      rw [e1]
      exact h
/-- a call of a method of the class, or of the reference -/
theorem lx_call (C0 : lw_At p s m meth c b L xs) (N : ia_N sa (fun q : Nat => s.heap.size ≤ q) s s.heap) {y2 i pp kx bx : Nat} {as : List ia_V} {vs rest : List Value} {r σ' n'} (hok : ia_okI 18 (i, 1, y2, 0, 0, pp) = true) (hd : decode code pc = .ok (.invokevirtual i, 3)) (hrest : (rest.map fun v => v.category).sum ≤ 8)
    (hcall : ia_call 7 y2 (.inr (.inr (.inl (some kx))) :: as) σ n = some (some (.inl r), σ', n')) (hbx : as0[kx]? = some bx) (hcl : ∃ c0, ia_get2 σ kx = some c0 ∧ c0.1 = ia_cls y2 ∧ c0.1 < 13) (hvs : ∀ ad, ia_S sa ad as vs) (hlen : as.length + 1 = ia_na y2) (hc : nc + ia_mc y2 ≤ 600002 ∧ ns + ia_ms y2 ≤ 7302232)
    (k : ∀ v : Int32, r.1 ≤ ia_E v → ia_E v ≤ r.2 → lx_W p l e s m below meth c b D sa as0 lx (pc + 3) (.int v :: rest) σ' n' (nc + ia_mc y2) (ns + ia_ms y2)) : lx_W p l e s m below meth c b D sa as0 lx pc (vs.reverse ++ .ref bx :: rest) σ n nc ns := by
  obtain ⟨hx, hb, hr, hml, hown, hts, hX, hbl, hlocks, hgv⟩ := id C0
  intro H locs ws tys ls hl hG
  obtain ⟨hK, hP, hD, hS, hn, hR, x0, hx0⟩ := id hG
  have hA : ∀ q : Nat, s.heap.size ≤ q → (fun q : Nat => s.heap.size ≤ q) q := fun _ h => h
  have htb : ∀ w ∈ ia_TB, w.before #[Value.ref b] s = true := fun w hw => hts w (List.mem_filter.mp hw).1
  obtain ⟨k1, k2, k3, k4, k5, k6⟩ := ia_ok1v hok
  obtain ⟨kk, hk1, hk2⟩ := ia_pred k6
  obtain ⟨e1, e2, e3, e4, e5, e6, e7, e8⟩ := ia_okM_eq k1
  have hb0 : (ws.map Prod.fst)[kx]? = some bx := by rw [hx0]; exact ia_app_mono _ _ hbx
  have hS' : ia_S sa (ws.map Prod.fst) (.inr (.inr (.inl (some kx))) :: as) (.ref bx :: vs) := ⟨_, _, rfl, ⟨bx, hb0, rfl⟩, hvs _⟩
  have hmet := ia_met 7 y2 _ σ n _ hcall k1 l D sa (.ref bx :: vs) ws tys H.size hS' hn hR
  have hAl : vs.length = kk := by have := ia_S_len (hvs []); omega
  have hcb : CallB room_1 s #[Value.ref b] (ia_own 18) i (ia_nm y2) (ia_code y2) (ia_maxL y2) (ia_ret y2) (ia_ws y2) (ia_rm 7 y2) (ia_mc y2) (ia_ms y2) kk := callB_of (Ts := lw_tbl) (ws' := ia_TB) kk hts (ia_good0 e2) (by rw [ia_ws, e1]) rfl rfl (htb _ e5) (htb _ k2) ⟨e6, e7, hk2⟩ ⟨by show 7 + 1 ≤ 2048; decide, by show 8 + (ia_maxL y2 + 11) + 100 * 7 ≤ 84000; omega⟩
  obtain ⟨c0, hc0, hc3, hc4⟩ := hcl
  have hcell : ∃ cellB : Cell, H[bx]? = some cellB ∧ cellB.vm.isStatics = false ∧ s.vm.findClass (ia_nm y2).cls = some cellB.cls := by
    obtain ⟨e1, hw, hcc⟩ := hR.at hc0 (by omega) hb0
    obtain ⟨vs0, rfl, -⟩ := hcc.1 (by omega)
    have hvc : ∃ q, vwCl[c0.1]? = some q := ⟨_, List.getElem?_eq_getElem (show c0.1 < vwCl.length from hc4)⟩
    obtain ⟨q, hq⟩ := hvc
    have hz := va_recv hK hP hq hw
    rw [(ia_okC_at hq).2.2.2, hc3, ← e3] at hz
    exact hz
  refine ia_after (va_runV (As := vs) (rest := rest) (Ts := lw_tbl) (cc := code) (nL := 7) (own := ia_own 18) ⟨hx, hb, hml, hown, hts⟩ hmet ⟨hcb, htb _ k3, htb _ k4⟩ ⟨ia_blind, hcell, ia_pre N hK hP hD hS hA⟩ rfl hAl hl.1 rfl (lv_room hrest) hd ⟨hc.1, hc.2⟩) hS (ia_free hD hS hA) (fun ov ws' tys' H1 locs1 q1 q2 q3 q4 q5 q6 q7 q8 => ?_)
  obtain ⟨x1, hx1⟩ := q3
  cases ov with
  | none => cases q1
  | some v =>
    obtain ⟨z, rfl, z1, z2⟩ := q1
    exact k z z1 z2 H1 locs1 ws' tys' ls hl ⟨q6, q5, q7, q8, q2, q4, x0 ++ x1, by rw [hx1, hx0, List.append_assoc]⟩
end LX
